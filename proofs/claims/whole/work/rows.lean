section
-- ===== PART A: goes FIRST, ahead of the names: the tables' words, and 'selects' of the private methods out of them =====
/-- a private method of a class that the tables say can be made, by its rows of tables_1 -/
def lw_okq (q : MethodName × Nat) : Prop := (q.1.cls ≠ "java/lang/invoke/MethodHandle" ∧ q.1.cls ≠ "java/lang/invoke/VarHandle") ∧ Cond.instantiable q.1.cls q.2 ∈ tables_1 ∧ Cond.privateMethod q.1 ∈ tables_1 ∧ Cond.instanceMethod q.1 ∈ tables_1
theorem lw_p0 : lw_okq (⟨"TwoTuesdays", "found", "(I)I"⟩, 7) := ⟨⟨by decide +kernel, by decide +kernel⟩, List.mem_of_getElem? (i := 16) (by decide +kernel), List.mem_of_getElem? (i := 192) (by decide +kernel), List.mem_of_getElem? (i := 193) (by decide +kernel)⟩
theorem lw_p1 : lw_okq (⟨"TwoTuesdays$Town", "bestPlaceFor", "(I)I"⟩, 13) := ⟨⟨by decide +kernel, by decide +kernel⟩, List.mem_of_getElem? (i := 24) (by decide +kernel), List.mem_of_getElem? (i := 205) (by decide +kernel), List.mem_of_getElem? (i := 206) (by decide +kernel)⟩
theorem lw_p2 : lw_okq (⟨"TwoTuesdays", "isThere", "(I)Z"⟩, 7) := ⟨⟨by decide +kernel, by decide +kernel⟩, List.mem_of_getElem? (i := 16) (by decide +kernel), List.mem_of_getElem? (i := 243) (by decide +kernel), List.mem_of_getElem? (i := 244) (by decide +kernel)⟩
theorem lw_p3 : lw_okq (⟨"TwoTuesdays", "richestWith", "(III)I"⟩, 7) := ⟨⟨by decide +kernel, by decide +kernel⟩, List.mem_of_getElem? (i := 16) (by decide +kernel), List.mem_of_getElem? (i := 376) (by decide +kernel), List.mem_of_getElem? (i := 377) (by decide +kernel)⟩
theorem lw_p4 : lw_okq (⟨"TwoTuesdays", "comersIfTold", "(II)I"⟩, 7) := ⟨⟨by decide +kernel, by decide +kernel⟩, List.mem_of_getElem? (i := 16) (by decide +kernel), List.mem_of_getElem? (i := 406) (by decide +kernel), List.mem_of_getElem? (i := 407) (by decide +kernel)⟩
theorem lw_p5 : lw_okq (⟨"TwoTuesdays", "goodsIfSwapped", "(III)I"⟩, 7) := ⟨⟨by decide +kernel, by decide +kernel⟩, List.mem_of_getElem? (i := 16) (by decide +kernel), List.mem_of_getElem? (i := 418) (by decide +kernel), List.mem_of_getElem? (i := 419) (by decide +kernel)⟩
theorem lw_p6 : lw_okq (⟨"TwoTuesdays", "fittingTraits", "(III)I"⟩, 7) := ⟨⟨by decide +kernel, by decide +kernel⟩, List.mem_of_getElem? (i := 16) (by decide +kernel), List.mem_of_getElem? (i := 426) (by decide +kernel), List.mem_of_getElem? (i := 427) (by decide +kernel)⟩
theorem lw_p7 : lw_okq (⟨"TwoTuesdays", "fitsWith", "(LTwoTuesdays$Sheet;III)Z"⟩, 7) := ⟨⟨by decide +kernel, by decide +kernel⟩, List.mem_of_getElem? (i := 16) (by decide +kernel), List.mem_of_getElem? (i := 438) (by decide +kernel), List.mem_of_getElem? (i := 439) (by decide +kernel)⟩
theorem lw_p8 : lw_okq (⟨"TwoTuesdays$Tape", "skipWord", "()V"⟩, 6) := ⟨⟨by decide +kernel, by decide +kernel⟩, List.mem_of_getElem? (i := 91) (by decide +kernel), List.mem_of_getElem? (i := 494) (by decide +kernel), List.mem_of_getElem? (i := 495) (by decide +kernel)⟩
theorem lw_p9 : lw_okq (⟨"TwoTuesdays$Tape", "skipNumber", "()V"⟩, 6) := ⟨⟨by decide +kernel, by decide +kernel⟩, List.mem_of_getElem? (i := 91) (by decide +kernel), List.mem_of_getElem? (i := 498) (by decide +kernel), List.mem_of_getElem? (i := 499) (by decide +kernel)⟩
theorem lw_p10 : lw_okq (⟨"TwoTuesdays$TextReader", "readItem", "()Z"⟩, 4) := ⟨⟨by decide +kernel, by decide +kernel⟩, List.mem_of_getElem? (i := 85) (by decide +kernel), List.mem_of_getElem? (i := 502) (by decide +kernel), List.mem_of_getElem? (i := 503) (by decide +kernel)⟩
theorem lw_p11 : lw_okq (⟨"TwoTuesdays$TextReader", "readPrize", "()Z"⟩, 4) := ⟨⟨by decide +kernel, by decide +kernel⟩, List.mem_of_getElem? (i := 85) (by decide +kernel), List.mem_of_getElem? (i := 560) (by decide +kernel), List.mem_of_getElem? (i := 561) (by decide +kernel)⟩
theorem lw_p12 : lw_okq (⟨"TwoTuesdays$TextReader", "isNumberHere", "(I)Z"⟩, 4) := ⟨⟨by decide +kernel, by decide +kernel⟩, List.mem_of_getElem? (i := 85) (by decide +kernel), List.mem_of_getElem? (i := 564) (by decide +kernel), List.mem_of_getElem? (i := 565) (by decide +kernel)⟩
theorem lw_p13 : lw_okq (⟨"TwoTuesdays$TextReader", "kindHere", "()I"⟩, 4) := ⟨⟨by decide +kernel, by decide +kernel⟩, List.mem_of_getElem? (i := 85) (by decide +kernel), List.mem_of_getElem? (i := 568) (by decide +kernel), List.mem_of_getElem? (i := 569) (by decide +kernel)⟩
theorem lw_p14 : lw_okq (⟨"TwoTuesdays$TextReader", "readTraits", "(I)Z"⟩, 4) := ⟨⟨by decide +kernel, by decide +kernel⟩, List.mem_of_getElem? (i := 85) (by decide +kernel), List.mem_of_getElem? (i := 584) (by decide +kernel), List.mem_of_getElem? (i := 585) (by decide +kernel)⟩
theorem lw_p15 : lw_okq (⟨"TwoTuesdays$TextReader", "readTrait", "(Ljava/lang/String;III)Z"⟩, 4) := ⟨⟨by decide +kernel, by decide +kernel⟩, List.mem_of_getElem? (i := 85) (by decide +kernel), List.mem_of_getElem? (i := 589) (by decide +kernel), List.mem_of_getElem? (i := 590) (by decide +kernel)⟩
def lw_privs_1 : List (MethodName × Nat) := [(⟨"TwoTuesdays", "found", "(I)I"⟩, 7), (⟨"TwoTuesdays$Town", "bestPlaceFor", "(I)I"⟩, 13), (⟨"TwoTuesdays", "isThere", "(I)Z"⟩, 7), (⟨"TwoTuesdays", "richestWith", "(III)I"⟩, 7), (⟨"TwoTuesdays", "comersIfTold", "(II)I"⟩, 7), (⟨"TwoTuesdays", "goodsIfSwapped", "(III)I"⟩, 7), (⟨"TwoTuesdays", "fittingTraits", "(III)I"⟩, 7), (⟨"TwoTuesdays", "fitsWith", "(LTwoTuesdays$Sheet;III)Z"⟩, 7), (⟨"TwoTuesdays$Tape", "skipWord", "()V"⟩, 6), (⟨"TwoTuesdays$Tape", "skipNumber", "()V"⟩, 6), (⟨"TwoTuesdays$TextReader", "readItem", "()Z"⟩, 4), (⟨"TwoTuesdays$TextReader", "readPrize", "()Z"⟩, 4), (⟨"TwoTuesdays$TextReader", "isNumberHere", "(I)Z"⟩, 4), (⟨"TwoTuesdays$TextReader", "kindHere", "()I"⟩, 4), (⟨"TwoTuesdays$TextReader", "readTraits", "(I)Z"⟩, 4), (⟨"TwoTuesdays$TextReader", "readTrait", "(Ljava/lang/String;III)Z"⟩, 4)]
theorem lw_r1 : ∀ q ∈ lw_privs_1, lw_okq q := List.forall_mem_cons.mpr ⟨lw_p0, List.forall_mem_cons.mpr ⟨lw_p1, List.forall_mem_cons.mpr ⟨lw_p2, List.forall_mem_cons.mpr ⟨lw_p3, List.forall_mem_cons.mpr ⟨lw_p4, List.forall_mem_cons.mpr ⟨lw_p5, List.forall_mem_cons.mpr ⟨lw_p6, List.forall_mem_cons.mpr ⟨lw_p7, List.forall_mem_cons.mpr ⟨lw_p8, List.forall_mem_cons.mpr ⟨lw_p9, List.forall_mem_cons.mpr ⟨lw_p10, List.forall_mem_cons.mpr ⟨lw_p11, List.forall_mem_cons.mpr ⟨lw_p12, List.forall_mem_cons.mpr ⟨lw_p13, List.forall_mem_cons.mpr ⟨lw_p14, List.forall_mem_cons.mpr ⟨lw_p15, fun _ h => absurd h List.not_mem_nil⟩⟩⟩⟩⟩⟩⟩⟩⟩⟩⟩⟩⟩⟩⟩⟩
theorem lw_p16 : lw_okq (⟨"TwoTuesdays$TextReader", "failHere", "()Z"⟩, 4) := ⟨⟨by decide +kernel, by decide +kernel⟩, List.mem_of_getElem? (i := 85) (by decide +kernel), List.mem_of_getElem? (i := 596) (by decide +kernel), List.mem_of_getElem? (i := 597) (by decide +kernel)⟩
theorem lw_p17 : lw_okq (⟨"TwoTuesdaysModel", "become", "(II)I"⟩, 23) := ⟨⟨by decide +kernel, by decide +kernel⟩, List.mem_of_getElem? (i := 677) (by decide +kernel), List.mem_of_getElem? (i := 775) (by decide +kernel), List.mem_of_getElem? (i := 776) (by decide +kernel)⟩
theorem lw_p18 : lw_okq (⟨"TwoTuesdaysModel", "finding", "(I)I"⟩, 23) := ⟨⟨by decide +kernel, by decide +kernel⟩, List.mem_of_getElem? (i := 677) (by decide +kernel), List.mem_of_getElem? (i := 780) (by decide +kernel), List.mem_of_getElem? (i := 781) (by decide +kernel)⟩
theorem lw_p19 : lw_okq (⟨"TwoTuesdaysModel", "comes", "(IIII)I"⟩, 23) := ⟨⟨by decide +kernel, by decide +kernel⟩, List.mem_of_getElem? (i := 677) (by decide +kernel), List.mem_of_getElem? (i := 792) (by decide +kernel), List.mem_of_getElem? (i := 793) (by decide +kernel)⟩
theorem lw_p20 : lw_okq (⟨"TwoTuesdaysModel", "looksAt", "()V"⟩, 23) := ⟨⟨by decide +kernel, by decide +kernel⟩, List.mem_of_getElem? (i := 677) (by decide +kernel), List.mem_of_getElem? (i := 803) (by decide +kernel), List.mem_of_getElem? (i := 804) (by decide +kernel)⟩
theorem lw_p21 : lw_okq (⟨"TwoTuesdaysModel", "choiceOf", "(I)I"⟩, 23) := ⟨⟨by decide +kernel, by decide +kernel⟩, List.mem_of_getElem? (i := 677) (by decide +kernel), List.mem_of_getElem? (i := 807) (by decide +kernel), List.mem_of_getElem? (i := 808) (by decide +kernel)⟩
theorem lw_p22 : lw_okq (⟨"TwoTuesdaysModel", "personIs", "(II)I"⟩, 23) := ⟨⟨by decide +kernel, by decide +kernel⟩, List.mem_of_getElem? (i := 677) (by decide +kernel), List.mem_of_getElem? (i := 811) (by decide +kernel), List.mem_of_getElem? (i := 812) (by decide +kernel)⟩
theorem lw_p23 : lw_okq (⟨"TwoTuesdaysModel", "wishAt", "(II)I"⟩, 23) := ⟨⟨by decide +kernel, by decide +kernel⟩, List.mem_of_getElem? (i := 677) (by decide +kernel), List.mem_of_getElem? (i := 815) (by decide +kernel), List.mem_of_getElem? (i := 816) (by decide +kernel)⟩
theorem lw_p24 : lw_okq (⟨"TwoTuesdaysModel", "seenAt", "(II)I"⟩, 23) := ⟨⟨by decide +kernel, by decide +kernel⟩, List.mem_of_getElem? (i := 677) (by decide +kernel), List.mem_of_getElem? (i := 819) (by decide +kernel), List.mem_of_getElem? (i := 820) (by decide +kernel)⟩
theorem lw_p25 : lw_okq (⟨"TwoTuesdaysModel", "planners", "(I)I"⟩, 23) := ⟨⟨by decide +kernel, by decide +kernel⟩, List.mem_of_getElem? (i := 677) (by decide +kernel), List.mem_of_getElem? (i := 823) (by decide +kernel), List.mem_of_getElem? (i := 824) (by decide +kernel)⟩
theorem lw_p26 : lw_okq (⟨"TwoTuesdaysModel", "loverWish", "(III)I"⟩, 23) := ⟨⟨by decide +kernel, by decide +kernel⟩, List.mem_of_getElem? (i := 677) (by decide +kernel), List.mem_of_getElem? (i := 830) (by decide +kernel), List.mem_of_getElem? (i := 831) (by decide +kernel)⟩
theorem lw_p27 : lw_okq (⟨"TwoTuesdaysModel", "canSee", "(II)Z"⟩, 23) := ⟨⟨by decide +kernel, by decide +kernel⟩, List.mem_of_getElem? (i := 677) (by decide +kernel), List.mem_of_getElem? (i := 834) (by decide +kernel), List.mem_of_getElem? (i := 835) (by decide +kernel)⟩
theorem lw_p28 : lw_okq (⟨"TwoTuesdaysModel", "comers", "(I)I"⟩, 23) := ⟨⟨by decide +kernel, by decide +kernel⟩, List.mem_of_getElem? (i := 677) (by decide +kernel), List.mem_of_getElem? (i := 839) (by decide +kernel), List.mem_of_getElem? (i := 840) (by decide +kernel)⟩
theorem lw_p29 : lw_okq (⟨"TwoTuesdaysModel", "isPerson", "(I)Z"⟩, 23) := ⟨⟨by decide +kernel, by decide +kernel⟩, List.mem_of_getElem? (i := 677) (by decide +kernel), List.mem_of_getElem? (i := 847) (by decide +kernel), List.mem_of_getElem? (i := 848) (by decide +kernel)⟩
theorem lw_p30 : lw_okq (⟨"TwoTuesdaysModel", "doesRegret", "(I)Z"⟩, 23) := ⟨⟨by decide +kernel, by decide +kernel⟩, List.mem_of_getElem? (i := 677) (by decide +kernel), List.mem_of_getElem? (i := 851) (by decide +kernel), List.mem_of_getElem? (i := 852) (by decide +kernel)⟩
theorem lw_p31 : lw_okq (⟨"TwoTuesdaysModel", "mayBe", "(III)Z"⟩, 23) := ⟨⟨by decide +kernel, by decide +kernel⟩, List.mem_of_getElem? (i := 677) (by decide +kernel), List.mem_of_getElem? (i := 859) (by decide +kernel), List.mem_of_getElem? (i := 860) (by decide +kernel)⟩
def lw_privs_2 : List (MethodName × Nat) := [(⟨"TwoTuesdays$TextReader", "failHere", "()Z"⟩, 4), (⟨"TwoTuesdaysModel", "become", "(II)I"⟩, 23), (⟨"TwoTuesdaysModel", "finding", "(I)I"⟩, 23), (⟨"TwoTuesdaysModel", "comes", "(IIII)I"⟩, 23), (⟨"TwoTuesdaysModel", "looksAt", "()V"⟩, 23), (⟨"TwoTuesdaysModel", "choiceOf", "(I)I"⟩, 23), (⟨"TwoTuesdaysModel", "personIs", "(II)I"⟩, 23), (⟨"TwoTuesdaysModel", "wishAt", "(II)I"⟩, 23), (⟨"TwoTuesdaysModel", "seenAt", "(II)I"⟩, 23), (⟨"TwoTuesdaysModel", "planners", "(I)I"⟩, 23), (⟨"TwoTuesdaysModel", "loverWish", "(III)I"⟩, 23), (⟨"TwoTuesdaysModel", "canSee", "(II)Z"⟩, 23), (⟨"TwoTuesdaysModel", "comers", "(I)I"⟩, 23), (⟨"TwoTuesdaysModel", "isPerson", "(I)Z"⟩, 23), (⟨"TwoTuesdaysModel", "doesRegret", "(I)Z"⟩, 23), (⟨"TwoTuesdaysModel", "mayBe", "(III)Z"⟩, 23)]
theorem lw_r2 : ∀ q ∈ lw_privs_2, lw_okq q := List.forall_mem_cons.mpr ⟨lw_p16, List.forall_mem_cons.mpr ⟨lw_p17, List.forall_mem_cons.mpr ⟨lw_p18, List.forall_mem_cons.mpr ⟨lw_p19, List.forall_mem_cons.mpr ⟨lw_p20, List.forall_mem_cons.mpr ⟨lw_p21, List.forall_mem_cons.mpr ⟨lw_p22, List.forall_mem_cons.mpr ⟨lw_p23, List.forall_mem_cons.mpr ⟨lw_p24, List.forall_mem_cons.mpr ⟨lw_p25, List.forall_mem_cons.mpr ⟨lw_p26, List.forall_mem_cons.mpr ⟨lw_p27, List.forall_mem_cons.mpr ⟨lw_p28, List.forall_mem_cons.mpr ⟨lw_p29, List.forall_mem_cons.mpr ⟨lw_p30, List.forall_mem_cons.mpr ⟨lw_p31, fun _ h => absurd h List.not_mem_nil⟩⟩⟩⟩⟩⟩⟩⟩⟩⟩⟩⟩⟩⟩⟩⟩
theorem lw_p32 : lw_okq (⟨"TwoTuesdaysModel", "goesOn", "(I)V"⟩, 23) := ⟨⟨by decide +kernel, by decide +kernel⟩, List.mem_of_getElem? (i := 677) (by decide +kernel), List.mem_of_getElem? (i := 878) (by decide +kernel), List.mem_of_getElem? (i := 879) (by decide +kernel)⟩
theorem lw_p33 : lw_okq (⟨"TwoTuesdaysModel", "goes", "()V"⟩, 23) := ⟨⟨by decide +kernel, by decide +kernel⟩, List.mem_of_getElem? (i := 677) (by decide +kernel), List.mem_of_getElem? (i := 882) (by decide +kernel), List.mem_of_getElem? (i := 883) (by decide +kernel)⟩
theorem lw_p34 : lw_okq (⟨"TwoTuesdaysModel", "goodsAll", "()I"⟩, 23) := ⟨⟨by decide +kernel, by decide +kernel⟩, List.mem_of_getElem? (i := 677) (by decide +kernel), List.mem_of_getElem? (i := 887) (by decide +kernel), List.mem_of_getElem? (i := 888) (by decide +kernel)⟩
theorem lw_p35 : lw_okq (⟨"TwoTuesdaysModel", "whoRegrets", "()I"⟩, 23) := ⟨⟨by decide +kernel, by decide +kernel⟩, List.mem_of_getElem? (i := 677) (by decide +kernel), List.mem_of_getElem? (i := 895) (by decide +kernel), List.mem_of_getElem? (i := 896) (by decide +kernel)⟩
theorem lw_p36 : lw_okq (⟨"TwoTuesdaysModel", "comePlaces", "()I"⟩, 23) := ⟨⟨by decide +kernel, by decide +kernel⟩, List.mem_of_getElem? (i := 677) (by decide +kernel), List.mem_of_getElem? (i := 899) (by decide +kernel), List.mem_of_getElem? (i := 900) (by decide +kernel)⟩
theorem lw_p37 : lw_okq (⟨"TwoTuesdaysModel", "whoMoves", "()I"⟩, 23) := ⟨⟨by decide +kernel, by decide +kernel⟩, List.mem_of_getElem? (i := 677) (by decide +kernel), List.mem_of_getElem? (i := 903) (by decide +kernel), List.mem_of_getElem? (i := 904) (by decide +kernel)⟩
theorem lw_p38 : lw_okq (⟨"TwoTuesdaysModel", "richest", "()I"⟩, 23) := ⟨⟨by decide +kernel, by decide +kernel⟩, List.mem_of_getElem? (i := 677) (by decide +kernel), List.mem_of_getElem? (i := 907) (by decide +kernel), List.mem_of_getElem? (i := 908) (by decide +kernel)⟩
theorem lw_p39 : lw_okq (⟨"TwoTuesdaysModel", "behind", "(II)I"⟩, 23) := ⟨⟨by decide +kernel, by decide +kernel⟩, List.mem_of_getElem? (i := 677) (by decide +kernel), List.mem_of_getElem? (i := 918) (by decide +kernel), List.mem_of_getElem? (i := 919) (by decide +kernel)⟩
theorem lw_p40 : lw_okq (⟨"TwoTuesdaysModel", "putBack", "(I)I"⟩, 23) := ⟨⟨by decide +kernel, by decide +kernel⟩, List.mem_of_getElem? (i := 677) (by decide +kernel), List.mem_of_getElem? (i := 925) (by decide +kernel), List.mem_of_getElem? (i := 926) (by decide +kernel)⟩
theorem lw_p41 : lw_okq (⟨"TwoTuesdaysModel", "orNone", "(I)I"⟩, 23) := ⟨⟨by decide +kernel, by decide +kernel⟩, List.mem_of_getElem? (i := 677) (by decide +kernel), List.mem_of_getElem? (i := 937) (by decide +kernel), List.mem_of_getElem? (i := 938) (by decide +kernel)⟩
theorem lw_p42 : lw_okq (⟨"TwoTuesdaysModel", "arePlansAside", "()Z"⟩, 23) := ⟨⟨by decide +kernel, by decide +kernel⟩, List.mem_of_getElem? (i := 677) (by decide +kernel), List.mem_of_getElem? (i := 945) (by decide +kernel), List.mem_of_getElem? (i := 946) (by decide +kernel)⟩
theorem lw_p43 : lw_okq (⟨"TwoTuesdaysModel", "doMeet", "(II)Z"⟩, 23) := ⟨⟨by decide +kernel, by decide +kernel⟩, List.mem_of_getElem? (i := 677) (by decide +kernel), List.mem_of_getElem? (i := 953) (by decide +kernel), List.mem_of_getElem? (i := 954) (by decide +kernel)⟩
theorem lw_p44 : lw_okq (⟨"TwoTuesdaysModel", "isTried", "(II)Z"⟩, 23) := ⟨⟨by decide +kernel, by decide +kernel⟩, List.mem_of_getElem? (i := 677) (by decide +kernel), List.mem_of_getElem? (i := 966) (by decide +kernel), List.mem_of_getElem? (i := 967) (by decide +kernel)⟩
theorem lw_p45 : lw_okq (⟨"TwoTuesdaysModel", "bestFor", "(IIIII)I"⟩, 23) := ⟨⟨by decide +kernel, by decide +kernel⟩, List.mem_of_getElem? (i := 677) (by decide +kernel), List.mem_of_getElem? (i := 970) (by decide +kernel), List.mem_of_getElem? (i := 971) (by decide +kernel)⟩
theorem lw_p46 : lw_okq (⟨"TwoTuesdaysModel", "manyNow", "(I)I"⟩, 23) := ⟨⟨by decide +kernel, by decide +kernel⟩, List.mem_of_getElem? (i := 677) (by decide +kernel), List.mem_of_getElem? (i := 990) (by decide +kernel), List.mem_of_getElem? (i := 991) (by decide +kernel)⟩
theorem lw_p47 : lw_okq (⟨"TwoTuesdaysModel", "manyIfTold", "(II)I"⟩, 23) := ⟨⟨by decide +kernel, by decide +kernel⟩, List.mem_of_getElem? (i := 677) (by decide +kernel), List.mem_of_getElem? (i := 998) (by decide +kernel), List.mem_of_getElem? (i := 999) (by decide +kernel)⟩
def lw_privs_3 : List (MethodName × Nat) := [(⟨"TwoTuesdaysModel", "goesOn", "(I)V"⟩, 23), (⟨"TwoTuesdaysModel", "goes", "()V"⟩, 23), (⟨"TwoTuesdaysModel", "goodsAll", "()I"⟩, 23), (⟨"TwoTuesdaysModel", "whoRegrets", "()I"⟩, 23), (⟨"TwoTuesdaysModel", "comePlaces", "()I"⟩, 23), (⟨"TwoTuesdaysModel", "whoMoves", "()I"⟩, 23), (⟨"TwoTuesdaysModel", "richest", "()I"⟩, 23), (⟨"TwoTuesdaysModel", "behind", "(II)I"⟩, 23), (⟨"TwoTuesdaysModel", "putBack", "(I)I"⟩, 23), (⟨"TwoTuesdaysModel", "orNone", "(I)I"⟩, 23), (⟨"TwoTuesdaysModel", "arePlansAside", "()Z"⟩, 23), (⟨"TwoTuesdaysModel", "doMeet", "(II)Z"⟩, 23), (⟨"TwoTuesdaysModel", "isTried", "(II)Z"⟩, 23), (⟨"TwoTuesdaysModel", "bestFor", "(IIIII)I"⟩, 23), (⟨"TwoTuesdaysModel", "manyNow", "(I)I"⟩, 23), (⟨"TwoTuesdaysModel", "manyIfTold", "(II)I"⟩, 23)]
theorem lw_r3 : ∀ q ∈ lw_privs_3, lw_okq q := List.forall_mem_cons.mpr ⟨lw_p32, List.forall_mem_cons.mpr ⟨lw_p33, List.forall_mem_cons.mpr ⟨lw_p34, List.forall_mem_cons.mpr ⟨lw_p35, List.forall_mem_cons.mpr ⟨lw_p36, List.forall_mem_cons.mpr ⟨lw_p37, List.forall_mem_cons.mpr ⟨lw_p38, List.forall_mem_cons.mpr ⟨lw_p39, List.forall_mem_cons.mpr ⟨lw_p40, List.forall_mem_cons.mpr ⟨lw_p41, List.forall_mem_cons.mpr ⟨lw_p42, List.forall_mem_cons.mpr ⟨lw_p43, List.forall_mem_cons.mpr ⟨lw_p44, List.forall_mem_cons.mpr ⟨lw_p45, List.forall_mem_cons.mpr ⟨lw_p46, List.forall_mem_cons.mpr ⟨lw_p47, fun _ h => absurd h List.not_mem_nil⟩⟩⟩⟩⟩⟩⟩⟩⟩⟩⟩⟩⟩⟩⟩⟩
theorem lw_p48 : lw_okq (⟨"TwoTuesdaysModel", "goodsWithout", "(I)I"⟩, 23) := ⟨⟨by decide +kernel, by decide +kernel⟩, List.mem_of_getElem? (i := 677) (by decide +kernel), List.mem_of_getElem? (i := 1009) (by decide +kernel), List.mem_of_getElem? (i := 1010) (by decide +kernel)⟩
theorem lw_p49 : lw_okq (⟨"TwoTuesdaysModel", "goodsSwapped", "(III)I"⟩, 23) := ⟨⟨by decide +kernel, by decide +kernel⟩, List.mem_of_getElem? (i := 677) (by decide +kernel), List.mem_of_getElem? (i := 1017) (by decide +kernel), List.mem_of_getElem? (i := 1018) (by decide +kernel)⟩
theorem lw_p50 : lw_okq (⟨"TwoTuesdaysModel", "lacks", "(I)I"⟩, 23) := ⟨⟨by decide +kernel, by decide +kernel⟩, List.mem_of_getElem? (i := 677) (by decide +kernel), List.mem_of_getElem? (i := 1025) (by decide +kernel), List.mem_of_getElem? (i := 1026) (by decide +kernel)⟩
theorem lw_p51 : lw_okq (⟨"TwoTuesdaysModel", "fitting", "(IIII)I"⟩, 23) := ⟨⟨by decide +kernel, by decide +kernel⟩, List.mem_of_getElem? (i := 677) (by decide +kernel), List.mem_of_getElem? (i := 1033) (by decide +kernel), List.mem_of_getElem? (i := 1034) (by decide +kernel)⟩
theorem lw_p52 : lw_okq (⟨"TwoTuesdaysModel", "wentSo", "(II)Z"⟩, 23) := ⟨⟨by decide +kernel, by decide +kernel⟩, List.mem_of_getElem? (i := 677) (by decide +kernel), List.mem_of_getElem? (i := 1037) (by decide +kernel), List.mem_of_getElem? (i := 1038) (by decide +kernel)⟩
theorem lw_p53 : lw_okq (⟨"TwoTuesdaysModel", "drawn", "()I"⟩, 23) := ⟨⟨by decide +kernel, by decide +kernel⟩, List.mem_of_getElem? (i := 677) (by decide +kernel), List.mem_of_getElem? (i := 1049) (by decide +kernel), List.mem_of_getElem? (i := 1050) (by decide +kernel)⟩
theorem lw_p54 : lw_okq (⟨"TwoTuesdaysModel", "next", "()V"⟩, 23) := ⟨⟨by decide +kernel, by decide +kernel⟩, List.mem_of_getElem? (i := 677) (by decide +kernel), List.mem_of_getElem? (i := 1074) (by decide +kernel), List.mem_of_getElem? (i := 1075) (by decide +kernel)⟩
theorem lw_p55 : lw_okq (⟨"TwoTuesdaysModel", "byteAt", "(I)I"⟩, 23) := ⟨⟨by decide +kernel, by decide +kernel⟩, List.mem_of_getElem? (i := 677) (by decide +kernel), List.mem_of_getElem? (i := 1078) (by decide +kernel), List.mem_of_getElem? (i := 1079) (by decide +kernel)⟩
theorem lw_p56 : lw_okq (⟨"TwoTuesdaysModel", "readItem", "()V"⟩, 23) := ⟨⟨by decide +kernel, by decide +kernel⟩, List.mem_of_getElem? (i := 677) (by decide +kernel), List.mem_of_getElem? (i := 1082) (by decide +kernel), List.mem_of_getElem? (i := 1083) (by decide +kernel)⟩
theorem lw_p57 : lw_okq (⟨"TwoTuesdaysModel", "kindTold", "()I"⟩, 23) := ⟨⟨by decide +kernel, by decide +kernel⟩, List.mem_of_getElem? (i := 677) (by decide +kernel), List.mem_of_getElem? (i := 1086) (by decide +kernel), List.mem_of_getElem? (i := 1087) (by decide +kernel)⟩
theorem lw_p58 : lw_okq (⟨"TwoTuesdaysModel", "isWord", "(Ljava/lang/String;)Z"⟩, 23) := ⟨⟨by decide +kernel, by decide +kernel⟩, List.mem_of_getElem? (i := 677) (by decide +kernel), List.mem_of_getElem? (i := 1090) (by decide +kernel), List.mem_of_getElem? (i := 1091) (by decide +kernel)⟩
theorem lw_p59 : lw_okq (⟨"TwoTuesdaysModel", "must", "(Z)V"⟩, 23) := ⟨⟨by decide +kernel, by decide +kernel⟩, List.mem_of_getElem? (i := 677) (by decide +kernel), List.mem_of_getElem? (i := 1096) (by decide +kernel), List.mem_of_getElem? (i := 1097) (by decide +kernel)⟩
theorem lw_p60 : lw_okq (⟨"TwoTuesdaysModel", "afterWord", "(Ljava/lang/String;II)I"⟩, 23) := ⟨⟨by decide +kernel, by decide +kernel⟩, List.mem_of_getElem? (i := 677) (by decide +kernel), List.mem_of_getElem? (i := 1101) (by decide +kernel), List.mem_of_getElem? (i := 1102) (by decide +kernel)⟩
theorem lw_p61 : lw_okq (⟨"TwoTuesdaysModel", "number", "(II)I"⟩, 23) := ⟨⟨by decide +kernel, by decide +kernel⟩, List.mem_of_getElem? (i := 677) (by decide +kernel), List.mem_of_getElem? (i := 1105) (by decide +kernel), List.mem_of_getElem? (i := 1106) (by decide +kernel)⟩
theorem lw_p62 : lw_okq (⟨"TwoTuesdaysModel", "addItem", "(IIII)V"⟩, 23) := ⟨⟨by decide +kernel, by decide +kernel⟩, List.mem_of_getElem? (i := 677) (by decide +kernel), List.mem_of_getElem? (i := 1111) (by decide +kernel), List.mem_of_getElem? (i := 1112) (by decide +kernel)⟩
theorem lw_p63 : lw_okq (⟨"TwoTuesdaysModel", "isToldSo", "(I)I"⟩, 23) := ⟨⟨by decide +kernel, by decide +kernel⟩, List.mem_of_getElem? (i := 677) (by decide +kernel), List.mem_of_getElem? (i := 1116) (by decide +kernel), List.mem_of_getElem? (i := 1117) (by decide +kernel)⟩
def lw_privs_4 : List (MethodName × Nat) := [(⟨"TwoTuesdaysModel", "goodsWithout", "(I)I"⟩, 23), (⟨"TwoTuesdaysModel", "goodsSwapped", "(III)I"⟩, 23), (⟨"TwoTuesdaysModel", "lacks", "(I)I"⟩, 23), (⟨"TwoTuesdaysModel", "fitting", "(IIII)I"⟩, 23), (⟨"TwoTuesdaysModel", "wentSo", "(II)Z"⟩, 23), (⟨"TwoTuesdaysModel", "drawn", "()I"⟩, 23), (⟨"TwoTuesdaysModel", "next", "()V"⟩, 23), (⟨"TwoTuesdaysModel", "byteAt", "(I)I"⟩, 23), (⟨"TwoTuesdaysModel", "readItem", "()V"⟩, 23), (⟨"TwoTuesdaysModel", "kindTold", "()I"⟩, 23), (⟨"TwoTuesdaysModel", "isWord", "(Ljava/lang/String;)Z"⟩, 23), (⟨"TwoTuesdaysModel", "must", "(Z)V"⟩, 23), (⟨"TwoTuesdaysModel", "afterWord", "(Ljava/lang/String;II)I"⟩, 23), (⟨"TwoTuesdaysModel", "number", "(II)I"⟩, 23), (⟨"TwoTuesdaysModel", "addItem", "(IIII)V"⟩, 23), (⟨"TwoTuesdaysModel", "isToldSo", "(I)I"⟩, 23)]
theorem lw_r4 : ∀ q ∈ lw_privs_4, lw_okq q := List.forall_mem_cons.mpr ⟨lw_p48, List.forall_mem_cons.mpr ⟨lw_p49, List.forall_mem_cons.mpr ⟨lw_p50, List.forall_mem_cons.mpr ⟨lw_p51, List.forall_mem_cons.mpr ⟨lw_p52, List.forall_mem_cons.mpr ⟨lw_p53, List.forall_mem_cons.mpr ⟨lw_p54, List.forall_mem_cons.mpr ⟨lw_p55, List.forall_mem_cons.mpr ⟨lw_p56, List.forall_mem_cons.mpr ⟨lw_p57, List.forall_mem_cons.mpr ⟨lw_p58, List.forall_mem_cons.mpr ⟨lw_p59, List.forall_mem_cons.mpr ⟨lw_p60, List.forall_mem_cons.mpr ⟨lw_p61, List.forall_mem_cons.mpr ⟨lw_p62, List.forall_mem_cons.mpr ⟨lw_p63, fun _ h => absurd h List.not_mem_nil⟩⟩⟩⟩⟩⟩⟩⟩⟩⟩⟩⟩⟩⟩⟩⟩
def lw_privs : List (MethodName × Nat) := lw_privs_1 ++ (lw_privs_2 ++ (lw_privs_3 ++ (lw_privs_4)))
def lw_tbl : List Cond := k2_sels lw_privs ++ tables_1
theorem lw_privs_ok : ∀ q ∈ lw_privs, lw_okq q := by
  show ∀ q ∈ lw_privs_1 ++ (lw_privs_2 ++ (lw_privs_3 ++ (lw_privs_4))), lw_okq q
  exact List.forall_mem_append.mpr ⟨lw_r1, List.forall_mem_append.mpr ⟨lw_r2, List.forall_mem_append.mpr ⟨lw_r3, lw_r4⟩⟩⟩
-- ===== end of PART A; then your names; then what follows =====
end
section
/-! ===== BEGIN words of one list among another's, by their places ===== -/
theorem goodIn_r {big : List Cond} (ws : List Cond) (ps : List Nat) (hp : ws = ps.filterMap (fun i => big[i]?)) (h : ws.all goodWord = true) : GoodIn big ws := by
  intro w hw
  have h1 := List.all_eq_true.mp h w hw
  rw [hp] at hw
  obtain ⟨i, -, hi⟩ := List.mem_filterMap.mp hw
  have hm : w ∈ big := by first | exact List.mem_of_getElem? hi | exact List.getElem?_mem hi
  exact ⟨hm, good_of_word h1⟩
theorem goodIn_app {big a b : List Cond} (ha : GoodIn big a) (hb : GoodIn big b) : GoodIn big (a ++ b) := fun w h => (List.mem_append.mp h).elim (ha w) (hb w)
theorem goodIn_ca {big a b : List Cond} {c : Cond} (ha : GoodIn big (c :: a)) (hb : GoodIn big b) : GoodIn big (c :: (a ++ b)) := fun w h => (List.mem_cons.mp h).elim (fun e => ha w (List.mem_cons.mpr (Or.inl e))) (fun h => (List.mem_append.mp h).elim (fun h => ha w (List.mem_cons.mpr (Or.inr h))) (hb w))
theorem goodIn_sub {big ws : List Cond} (hm : ∀ w ∈ ws, w ∈ big) (h : ws.all goodWord = true) : GoodIn big ws := fun w hw => ⟨hm w hw, good_of_word (List.all_eq_true.mp h w hw)⟩
/-! ===== END ===== -/

/-! ===== BEGIN printed: names, fields, word lists, decode rows ===== -/
def RX0 : String := "TwoTuesdays$Sheet"
def TX0 : u_T := fun k => match k with
  | 0 => ("TwoTuesdays$Sheet", "numbers", "[I", true)
  | 1 => ("TwoTuesdays$Sheet", "bits", "I", false)
  | _ => ("TwoTuesdays$Sheet", "size", "I", false)
def tyX0 : Nat → FieldType := fun k => match k with
  | 0 => .array .int
  | 1 => .int
  | _ => .int
abbrev wsX00 : List Cond := u_ws RX0 TX0 3
theorem nmX0 : ∀ a, a < 3 → ∀ b, b < 3 → a ≠ b → (TX0 a).2.1 ≠ (TX0 b).2.1 := by decide +kernel
theorem tyX0_ok : ∀ k, k < 3 → parseFieldDescriptor (TX0 k).2.2.1 = some (tyX0 k) := by decide +kernel
abbrev cX0_init : ByteArray := prog_2_method_1_code
def yX0_init : MethodName := ⟨RX0, "<init>", "()V"⟩
abbrev cX0_begin : ByteArray := prog_2_method_2_code
def yX0_begin : MethodName := ⟨RX0, "begin", "(II)V"⟩
abbrev cX0_isMissing : ByteArray := prog_2_method_3_code
def yX0_isMissing : MethodName := ⟨RX0, "isMissing", "()Z"⟩
abbrev cX0_hasNumbers : ByteArray := prog_2_method_4_code
def yX0_hasNumbers : MethodName := ⟨RX0, "hasNumbers", "(II)Z"⟩
abbrev cX0_put : ByteArray := prog_2_method_5_code
def yX0_put : MethodName := ⟨RX0, "put", "(II)V"⟩
def RX1 : String := "TwoTuesdays$Tape"
def TX1 : u_T := fun k => match k with
  | 0 => ("TwoTuesdays$Tape", "bytes", "[I", true)
  | 1 => ("TwoTuesdays$Tape", "length", "I", false)
  | 2 => ("TwoTuesdays$Tape", "token", "I", false)
  | 3 => ("TwoTuesdays$Tape", "begin", "I", false)
  | 4 => ("TwoTuesdays$Tape", "value", "I", false)
  | _ => ("TwoTuesdays$Tape", "end", "I", false)
def tyX1 : Nat → FieldType := fun k => match k with
  | 0 => .array .int
  | 1 => .int
  | 2 => .int
  | 3 => .int
  | 4 => .int
  | _ => .int
abbrev wsX10 : List Cond := u_ws RX1 TX1 6
theorem nmX1 : ∀ a, a < 6 → ∀ b, b < 6 → a ≠ b → (TX1 a).2.1 ≠ (TX1 b).2.1 := by decide +kernel
theorem tyX1_ok : ∀ k, k < 6 → parseFieldDescriptor (TX1 k).2.2.1 = some (tyX1 k) := by decide +kernel
abbrev cX1_init : ByteArray := prog_3_method_1_code
def yX1_init : MethodName := ⟨RX1, "<init>", "()V"⟩
abbrev cX1_append : ByteArray := prog_3_method_2_code
def yX1_append : MethodName := ⟨RX1, "append", "(I)V"⟩
abbrev cX1_rewind : ByteArray := prog_3_method_3_code
def yX1_rewind : MethodName := ⟨RX1, "rewind", "()V"⟩
abbrev cX1_step : ByteArray := prog_3_method_4_code
def yX1_step : MethodName := ⟨RX1, "step", "()V"⟩
abbrev cX1_skipWord : ByteArray := prog_3_method_5_code
def yX1_skipWord : MethodName := ⟨RX1, "skipWord", "()V"⟩
abbrev cX1_skipNumber : ByteArray := prog_3_method_6_code
def yX1_skipNumber : MethodName := ⟨RX1, "skipNumber", "()V"⟩
abbrev cX1_isWord : ByteArray := prog_3_method_7_code
def yX1_isWord : MethodName := ⟨RX1, "isWord", "(Ljava/lang/String;)Z"⟩
def RX2 : String := "TwoTuesdays$TextReader"
def TX2 : u_T := fun k => match k with
  | 0 => ("TwoTuesdays$TextReader", "tape", "LTwoTuesdays$Tape;", true)
  | 1 => ("TwoTuesdays$TextReader", "draft", "LTwoTuesdays$Town;", true)
  | 2 => ("TwoTuesdays$TextReader", "items", "I", false)
  | _ => ("TwoTuesdays$TextReader", "fault", "I", false)
def tyX2 : Nat → FieldType := fun k => match k with
  | 0 => .object "TwoTuesdays$Tape"
  | 1 => .object "TwoTuesdays$Town"
  | 2 => .int
  | _ => .int
abbrev wsX20 : List Cond := u_ws RX2 TX2 4
theorem nmX2 : ∀ a, a < 4 → ∀ b, b < 4 → a ≠ b → (TX2 a).2.1 ≠ (TX2 b).2.1 := by decide +kernel
theorem tyX2_ok : ∀ k, k < 4 → parseFieldDescriptor (TX2 k).2.2.1 = some (tyX2 k) := by decide +kernel
abbrev cX2_init : ByteArray := prog_4_method_1_code
def yX2_init : MethodName := ⟨RX2, "<init>", "()V"⟩
abbrev cX2_readItems : ByteArray := prog_4_method_2_code
def yX2_readItems : MethodName := ⟨RX2, "readItems", "()Z"⟩
abbrev cX2_failHere : ByteArray := prog_4_method_3_code
def yX2_failHere : MethodName := ⟨RX2, "failHere", "()Z"⟩
abbrev cX2_readItem : ByteArray := prog_4_method_4_code
def yX2_readItem : MethodName := ⟨RX2, "readItem", "()Z"⟩
abbrev cX2_kindHere : ByteArray := prog_4_method_5_code
def yX2_kindHere : MethodName := ⟨RX2, "kindHere", "()I"⟩
abbrev cX2_readPrize : ByteArray := prog_4_method_6_code
def yX2_readPrize : MethodName := ⟨RX2, "readPrize", "()Z"⟩
abbrev cX2_readTraits : ByteArray := prog_4_method_7_code
def yX2_readTraits : MethodName := ⟨RX2, "readTraits", "(I)Z"⟩
abbrev cX2_readTrait : ByteArray := prog_4_method_8_code
def yX2_readTrait : MethodName := ⟨RX2, "readTrait", "(Ljava/lang/String;III)Z"⟩
abbrev cX2_isNumberHere : ByteArray := prog_4_method_9_code
def yX2_isNumberHere : MethodName := ⟨RX2, "isNumberHere", "(I)Z"⟩
abbrev cX2_nameOf : ByteArray := prog_4_method_10_code
def yX2_nameOf : MethodName := ⟨RX2, "nameOf", "(I)Ljava/lang/String;"⟩
def RX3 : String := "TwoTuesdays$Town"
def TX3 : u_T := fun k => match k with
  | 0 => ("TwoTuesdays$Town", "prizeAt", "[I", true)
  | 1 => ("TwoTuesdays$Town", "kindOf", "[I", true)
  | 2 => ("TwoTuesdays$Town", "planOf", "[I", true)
  | 3 => ("TwoTuesdays$Town", "looksOf", "[I", true)
  | 4 => ("TwoTuesdays$Town", "loveOf", "[I", true)
  | 5 => ("TwoTuesdays$Town", "goodsOf", "[I", true)
  | 6 => ("TwoTuesdays$Town", "heldAt", "[I", true)
  | 7 => ("TwoTuesdays$Town", "people", "I", false)
  | 8 => ("TwoTuesdays$Town", "tuesday", "I", false)
  | 9 => ("TwoTuesdays$Town", "z", "I", false)
  | 10 => ("TwoTuesdays$Town", "plannedAt", "[I", true)
  | 11 => ("TwoTuesdays$Town", "choiceOf", "[I", true)
  | _ => ("TwoTuesdays$Town", "chosenAt", "[I", true)
def tyX3 : Nat → FieldType := fun k => match k with
  | 0 => .array .int
  | 1 => .array .int
  | 2 => .array .int
  | 3 => .array .int
  | 4 => .array .int
  | 5 => .array .int
  | 6 => .array .int
  | 7 => .int
  | 8 => .int
  | 9 => .int
  | 10 => .array .int
  | 11 => .array .int
  | _ => .array .int
abbrev wsX30 : List Cond := u_ws RX3 TX3 13
theorem nmX3 : ∀ a, a < 13 → ∀ b, b < 13 → a ≠ b → (TX3 a).2.1 ≠ (TX3 b).2.1 := by decide +kernel
theorem tyX3_ok : ∀ k, k < 13 → parseFieldDescriptor (TX3 k).2.2.1 = some (tyX3 k) := by decide +kernel
abbrev cX3_init : ByteArray := prog_5_method_1_code
def yX3_init : MethodName := ⟨RX3, "<init>", "()V"⟩
abbrev cX3_become : ByteArray := prog_5_method_2_code
def yX3_become : MethodName := ⟨RX3, "become", "(LTwoTuesdays$Town;)V"⟩
abbrev cX3_addOne : ByteArray := prog_5_method_3_code
def yX3_addOne : MethodName := ⟨RX3, "addOne", "(II)I"⟩
abbrev cX3_mayBecome : ByteArray := prog_5_method_4_code
def yX3_mayBecome : MethodName := ⟨RX3, "mayBecome", "(III)Z"⟩
abbrev cX3_traitOf : ByteArray := prog_5_method_5_code
def yX3_traitOf : MethodName := ⟨RX3, "traitOf", "(II)I"⟩
abbrev cX3_setTrait : ByteArray := prog_5_method_6_code
def yX3_setTrait : MethodName := ⟨RX3, "setTrait", "(III)V"⟩
abbrev cX3_settle : ByteArray := prog_5_method_7_code
def yX3_settle : MethodName := ⟨RX3, "settle", "()V"⟩
abbrev cX3_bestPlaceFor : ByteArray := prog_5_method_8_code
def yX3_bestPlaceFor : MethodName := ⟨RX3, "bestPlaceFor", "(I)I"⟩
abbrev cX3_canSee : ByteArray := prog_5_method_9_code
def yX3_canSee : MethodName := ⟨RX3, "canSee", "(II)Z"⟩
abbrev cX3_seenBy : ByteArray := prog_5_method_10_code
def yX3_seenBy : MethodName := ⟨RX3, "seenBy", "(II)I"⟩
abbrev cX3_wishAt : ByteArray := prog_5_method_11_code
def yX3_wishAt : MethodName := ⟨RX3, "wishAt", "(II)I"⟩
abbrev cX3_passTuesdays : ByteArray := prog_5_method_12_code
def yX3_passTuesdays : MethodName := ⟨RX3, "passTuesdays", "(I)V"⟩
abbrev cX3_getsNow : ByteArray := prog_5_method_13_code
def yX3_getsNow : MethodName := ⟨RX3, "getsNow", "(I)I"⟩
abbrev cX3_regretsNow : ByteArray := prog_5_method_14_code
def yX3_regretsNow : MethodName := ⟨RX3, "regretsNow", "(I)Z"⟩
abbrev cX3_regretters : ByteArray := prog_5_method_15_code
def yX3_regretters : MethodName := ⟨RX3, "regretters", "()I"⟩
abbrev cX3_movers : ByteArray := prog_5_method_16_code
def yX3_movers : MethodName := ⟨RX3, "movers", "()I"⟩
abbrev cX3_plannersOf : ByteArray := prog_5_method_17_code
def yX3_plannersOf : MethodName := ⟨RX3, "plannersOf", "(I)I"⟩
abbrev cX3_choosersOf : ByteArray := prog_5_method_18_code
def yX3_choosersOf : MethodName := ⟨RX3, "choosersOf", "(I)I"⟩
abbrev cX3_visitedPlaces : ByteArray := prog_5_method_19_code
def yX3_visitedPlaces : MethodName := ⟨RX3, "visitedPlaces", "()I"⟩
abbrev cX3_hasPlansOf : ByteArray := prog_5_method_20_code
def yX3_hasPlansOf : MethodName := ⟨RX3, "hasPlansOf", "(LTwoTuesdays$Town;)Z"⟩
abbrev cX3_goodsOfAll : ByteArray := prog_5_method_21_code
def yX3_goodsOfAll : MethodName := ⟨RX3, "goodsOfAll", "()I"⟩
abbrev cX3_richest : ByteArray := prog_5_method_22_code
def yX3_richest : MethodName := ⟨RX3, "richest", "()I"⟩
abbrev cX3_fullSpots : ByteArray := prog_5_method_23_code
def yX3_fullSpots : MethodName := ⟨RX3, "fullSpots", "()I"⟩
abbrev cX3_nextDraw : ByteArray := prog_5_method_24_code
def yX3_nextDraw : MethodName := ⟨RX3, "nextDraw", "()I"⟩
def RX4 : String := "TwoTuesdays"
def TX4 : u_T := fun k => match k with
  | 0 => ("TwoTuesdays", "town", "LTwoTuesdays$Town;", true)
  | 1 => ("TwoTuesdays", "kept", "LTwoTuesdays$Town;", true)
  | 2 => ("TwoTuesdays", "trial", "LTwoTuesdays$Town;", true)
  | 3 => ("TwoTuesdays", "reader", "LTwoTuesdays$TextReader;", true)
  | 4 => ("TwoTuesdays", "sheets", "[LTwoTuesdays$Sheet;", true)
  | 5 => ("TwoTuesdays", "told", "[I", true)
  | _ => ("TwoTuesdays", "isKept", "Z", false)
def tyX4 : Nat → FieldType := fun k => match k with
  | 0 => .object "TwoTuesdays$Town"
  | 1 => .object "TwoTuesdays$Town"
  | 2 => .object "TwoTuesdays$Town"
  | 3 => .object "TwoTuesdays$TextReader"
  | 4 => .array (.object "TwoTuesdays$Sheet")
  | 5 => .array .int
  | _ => .boolean
abbrev wsX40 : List Cond := u_ws RX4 TX4 7
theorem nmX4 : ∀ a, a < 7 → ∀ b, b < 7 → a ≠ b → (TX4 a).2.1 ≠ (TX4 b).2.1 := by decide +kernel
theorem tyX4_ok : ∀ k, k < 7 → parseFieldDescriptor (TX4 k).2.2.1 = some (tyX4 k) := by decide +kernel
abbrev cX4_init : ByteArray := prog_1_method_1_code
def yX4_init : MethodName := ⟨RX4, "<init>", "()V"⟩
abbrev cX4_prize : ByteArray := prog_1_method_2_code
def yX4_prize : MethodName := ⟨RX4, "prize", "(II)I"⟩
abbrev cX4_place : ByteArray := prog_1_method_3_code
def yX4_place : MethodName := ⟨RX4, "place", "(II)I"⟩
abbrev cX4_person : ByteArray := prog_1_method_4_code
def yX4_person : MethodName := ⟨RX4, "person", "(II)I"⟩
abbrev cX4_of : ByteArray := prog_1_method_5_code
def yX4_of : MethodName := ⟨RX4, "of", "(II)I"⟩
abbrev cX4_change : ByteArray := prog_1_method_6_code
def yX4_change : MethodName := ⟨RX4, "change", "(III)I"⟩
abbrev cX4_seen : ByteArray := prog_1_method_7_code
def yX4_seen : MethodName := ⟨RX4, "seen", "(II)I"⟩
abbrev cX4_wishes : ByteArray := prog_1_method_8_code
def yX4_wishes : MethodName := ⟨RX4, "wishes", "(II)I"⟩
abbrev cX4_go : ByteArray := prog_1_method_9_code
def yX4_go : MethodName := ⟨RX4, "go", "(I)I"⟩
abbrev cX4_now : ByteArray := prog_1_method_10_code
def yX4_now : MethodName := ⟨RX4, "now", "(I)I"⟩
abbrev cX4_ahead : ByteArray := prog_1_method_11_code
def yX4_ahead : MethodName := ⟨RX4, "ahead", "(II)I"⟩
abbrev cX4_plan : ByteArray := prog_1_method_12_code
def yX4_plan : MethodName := ⟨RX4, "plan", "(II)I"⟩
abbrev cX4_rests : ByteArray := prog_1_method_13_code
def yX4_rests : MethodName := ⟨RX4, "rests", "()I"⟩
abbrev cX4_round : ByteArray := prog_1_method_14_code
def yX4_round : MethodName := ⟨RX4, "round", "()I"⟩
abbrev cX4_meet : ByteArray := prog_1_method_15_code
def yX4_meet : MethodName := ⟨RX4, "meet", "(II)I"⟩
abbrev cX4_crowd : ByteArray := prog_1_method_16_code
def yX4_crowd : MethodName := ⟨RX4, "crowd", "(III)I"⟩
abbrev cX4_planFor : ByteArray := prog_1_method_17_code
def yX4_planFor : MethodName := ⟨RX4, "planFor", "(II)I"⟩
abbrev cX4_kindFor : ByteArray := prog_1_method_18_code
def yX4_kindFor : MethodName := ⟨RX4, "kindFor", "(II)I"⟩
abbrev cX4_looksFor : ByteArray := prog_1_method_19_code
def yX4_looksFor : MethodName := ⟨RX4, "looksFor", "(II)I"⟩
abbrev cX4_loveFor : ByteArray := prog_1_method_20_code
def yX4_loveFor : MethodName := ⟨RX4, "loveFor", "(II)I"⟩
abbrev cX4_prizeFor : ByteArray := prog_1_method_21_code
def yX4_prizeFor : MethodName := ⟨RX4, "prizeFor", "(II)I"⟩
abbrev cX4_tell : ByteArray := prog_1_method_22_code
def yX4_tell : MethodName := ⟨RX4, "tell", "(II)I"⟩
abbrev cX4_away : ByteArray := prog_1_method_23_code
def yX4_away : MethodName := ⟨RX4, "away", "()I"⟩
abbrev cX4_swapFor : ByteArray := prog_1_method_24_code
def yX4_swapFor : MethodName := ⟨RX4, "swapFor", "(I)I"⟩
abbrev cX4_fits : ByteArray := prog_1_method_25_code
def yX4_fits : MethodName := ⟨RX4, "fits", "(II)I"⟩
abbrev cX4_kinds : ByteArray := prog_1_method_26_code
def yX4_kinds : MethodName := ⟨RX4, "kinds", "(II)I"⟩
abbrev cX4_weather : ByteArray := prog_1_method_27_code
def yX4_weather : MethodName := ⟨RX4, "weather", "(I)I"⟩
abbrev cX4_odds : ByteArray := prog_1_method_28_code
def yX4_odds : MethodName := ⟨RX4, "odds", "(II)J"⟩
abbrev cX4_seed : ByteArray := prog_1_method_29_code
def yX4_seed : MethodName := ⟨RX4, "seed", "(I)I"⟩
abbrev cX4_feed : ByteArray := prog_1_method_30_code
def yX4_feed : MethodName := ⟨RX4, "feed", "(II)I"⟩
abbrev cX4_wipe : ByteArray := prog_1_method_31_code
def yX4_wipe : MethodName := ⟨RX4, "wipe", "()I"⟩
abbrev cX4_text : ByteArray := prog_1_method_32_code
def yX4_text : MethodName := ⟨RX4, "text", "()I"⟩
abbrev cX4_hold : ByteArray := prog_1_method_33_code
def yX4_hold : MethodName := ⟨RX4, "hold", "(II)I"⟩
abbrev cX4_as : ByteArray := prog_1_method_34_code
def yX4_as : MethodName := ⟨RX4, "as", "(II)I"⟩
abbrev cX4_sheet : ByteArray := prog_1_method_35_code
def yX4_sheet : MethodName := ⟨RX4, "sheet", "(III)I"⟩
abbrev cX4_write : ByteArray := prog_1_method_36_code
def yX4_write : MethodName := ⟨RX4, "write", "(III)I"⟩
abbrev cX4_copy : ByteArray := prog_1_method_37_code
def yX4_copy : MethodName := ⟨RX4, "copy", "(IIIII)I"⟩
abbrev cX4_load : ByteArray := prog_1_method_38_code
def yX4_load : MethodName := ⟨RX4, "load", "(I)I"⟩
abbrev cX4_judge : ByteArray := prog_1_method_39_code
def yX4_judge : MethodName := ⟨RX4, "judge", "(I)I"⟩
abbrev cX4_image : ByteArray := prog_1_method_40_code
def yX4_image : MethodName := ⟨RX4, "image", "()I"⟩
abbrev cX4_undo : ByteArray := prog_1_method_41_code
def yX4_undo : MethodName := ⟨RX4, "undo", "()I"⟩
abbrev cX4_tear : ByteArray := prog_1_method_42_code
def yX4_tear : MethodName := ⟨RX4, "tear", "()I"⟩
abbrev cX4_count : ByteArray := prog_1_method_43_code
def yX4_count : MethodName := ⟨RX4, "count", "(I)I"⟩
abbrev cX4_status : ByteArray := prog_1_method_44_code
def yX4_status : MethodName := ⟨RX4, "status", "(I)I"⟩
abbrev cX4_found : ByteArray := prog_1_method_45_code
def yX4_found : MethodName := ⟨RX4, "found", "(I)I"⟩
abbrev cX4_isThere : ByteArray := prog_1_method_46_code
def yX4_isThere : MethodName := ⟨RX4, "isThere", "(I)Z"⟩
abbrev cX4_richestWith : ByteArray := prog_1_method_47_code
def yX4_richestWith : MethodName := ⟨RX4, "richestWith", "(III)I"⟩
abbrev cX4_comersIfTold : ByteArray := prog_1_method_48_code
def yX4_comersIfTold : MethodName := ⟨RX4, "comersIfTold", "(II)I"⟩
abbrev cX4_goodsIfSwapped : ByteArray := prog_1_method_49_code
def yX4_goodsIfSwapped : MethodName := ⟨RX4, "goodsIfSwapped", "(III)I"⟩
abbrev cX4_fittingTraits : ByteArray := prog_1_method_50_code
def yX4_fittingTraits : MethodName := ⟨RX4, "fittingTraits", "(III)I"⟩
abbrev cX4_fitsWith : ByteArray := prog_1_method_51_code
def yX4_fitsWith : MethodName := ⟨RX4, "fitsWith", "(LTwoTuesdays$Sheet;III)Z"⟩
abbrev cX4_isWithin : ByteArray := prog_1_method_52_code
def yX4_isWithin : MethodName := ⟨RX4, "isWithin", "(III)Z"⟩
abbrev cX4_isPlace : ByteArray := prog_1_method_53_code
def yX4_isPlace : MethodName := ⟨RX4, "isPlace", "(I)Z"⟩
abbrev cX4_isKind : ByteArray := prog_1_method_54_code
def yX4_isKind : MethodName := ⟨RX4, "isKind", "(I)Z"⟩
abbrev cX4_isSpot : ByteArray := prog_1_method_55_code
def yX4_isSpot : MethodName := ⟨RX4, "isSpot", "(I)Z"⟩
abbrev cX4_isSheet : ByteArray := prog_1_method_56_code
def yX4_isSheet : MethodName := ⟨RX4, "isSheet", "(I)Z"⟩
abbrev cX4_isUnder : ByteArray := prog_1_method_57_code
def yX4_isUnder : MethodName := ⟨RX4, "isUnder", "(II)Z"⟩
abbrev cX4_shareOf : ByteArray := prog_1_method_58_code
def yX4_shareOf : MethodName := ⟨RX4, "shareOf", "(II)I"⟩
abbrev cX4_powerOf : ByteArray := prog_1_method_59_code
def yX4_powerOf : MethodName := ⟨RX4, "powerOf", "(II)J"⟩
def RX5 : String := "TwoTuesdaysModel"
def TX5 : u_T := fun k => match k with
  | 0 => ("TwoTuesdaysModel", "now", "[I", true)
  | 1 => ("TwoTuesdaysModel", "kept", "[I", true)
  | 2 => ("TwoTuesdaysModel", "aside", "[I", true)
  | 3 => ("TwoTuesdaysModel", "isKept", "Z", false)
  | 4 => ("TwoTuesdaysModel", "found", "[I", true)
  | 5 => ("TwoTuesdaysModel", "choices", "[I", true)
  | 6 => ("TwoTuesdaysModel", "gets", "[I", true)
  | 7 => ("TwoTuesdaysModel", "away", "I", false)
  | 8 => ("TwoTuesdaysModel", "tape", "[I", true)
  | 9 => ("TwoTuesdaysModel", "taped", "I", false)
  | 10 => ("TwoTuesdaysModel", "begins", "I", false)
  | 11 => ("TwoTuesdaysModel", "ends", "I", false)
  | 12 => ("TwoTuesdaysModel", "sort", "I", false)
  | 13 => ("TwoTuesdaysModel", "value", "I", false)
  | 14 => ("TwoTuesdaysModel", "isWrong", "Z", false)
  | 15 => ("TwoTuesdaysModel", "kindNames", "[Ljava/lang/String;", true)
  | 16 => ("TwoTuesdaysModel", "items", "[I", true)
  | 17 => ("TwoTuesdaysModel", "itemMany", "I", false)
  | 18 => ("TwoTuesdaysModel", "personThen", "I", false)
  | 19 => ("TwoTuesdaysModel", "widths", "[I", true)
  | 20 => ("TwoTuesdaysModel", "sizes", "[I", true)
  | 21 => ("TwoTuesdaysModel", "numbers", "[I", true)
  | _ => ("TwoTuesdaysModel", "moved", "[I", true)
def tyX5 : Nat → FieldType := fun k => match k with
  | 0 => .array .int
  | 1 => .array .int
  | 2 => .array .int
  | 3 => .boolean
  | 4 => .array .int
  | 5 => .array .int
  | 6 => .array .int
  | 7 => .int
  | 8 => .array .int
  | 9 => .int
  | 10 => .int
  | 11 => .int
  | 12 => .int
  | 13 => .int
  | 14 => .boolean
  | 15 => .array (.object "java/lang/String")
  | 16 => .array .int
  | 17 => .int
  | 18 => .int
  | 19 => .array .int
  | 20 => .array .int
  | 21 => .array .int
  | _ => .array .int
abbrev wsX50 : List Cond := u_ws RX5 TX5 23
theorem nmX5 : ∀ a, a < 23 → ∀ b, b < 23 → a ≠ b → (TX5 a).2.1 ≠ (TX5 b).2.1 := by decide +kernel
theorem tyX5_ok : ∀ k, k < 23 → parseFieldDescriptor (TX5 k).2.2.1 = some (tyX5 k) := by decide +kernel
abbrev cX5_init : ByteArray := prog_7_method_1_code
def yX5_init : MethodName := ⟨RX5, "<init>", "()V"⟩
abbrev cX5_finding : ByteArray := prog_7_method_2_code
def yX5_finding : MethodName := ⟨RX5, "finding", "(I)I"⟩
abbrev cX5_within : ByteArray := prog_7_method_3_code
def yX5_within : MethodName := ⟨RX5, "within", "(III)Z"⟩
abbrev cX5_become : ByteArray := prog_7_method_4_code
def yX5_become : MethodName := ⟨RX5, "become", "(II)I"⟩
abbrev cX5_copyRow : ByteArray := prog_7_method_5_code
def yX5_copyRow : MethodName := ⟨RX5, "copyRow", "([I[I)V"⟩
abbrev cX5_putBack : ByteArray := prog_7_method_6_code
def yX5_putBack : MethodName := ⟨RX5, "putBack", "(I)I"⟩
abbrev cX5_orNone : ByteArray := prog_7_method_7_code
def yX5_orNone : MethodName := ⟨RX5, "orNone", "(I)I"⟩
abbrev cX5_has : ByteArray := prog_7_method_8_code
def yX5_has : MethodName := ⟨RX5, "has", "(II)Z"⟩
abbrev cX5_bits : ByteArray := prog_7_method_9_code
def yX5_bits : MethodName := ⟨RX5, "bits", "(I)I"⟩
abbrev cX5_isPlace : ByteArray := prog_7_method_10_code
def yX5_isPlace : MethodName := ⟨RX5, "isPlace", "(I)Z"⟩
abbrev cX5_isPrize : ByteArray := prog_7_method_11_code
def yX5_isPrize : MethodName := ⟨RX5, "isPrize", "(I)Z"⟩
abbrev cX5_isPerson : ByteArray := prog_7_method_12_code
def yX5_isPerson : MethodName := ⟨RX5, "isPerson", "(I)Z"⟩
abbrev cX5_isKind : ByteArray := prog_7_method_13_code
def yX5_isKind : MethodName := ⟨RX5, "isKind", "(I)Z"⟩
abbrev cX5_at : ByteArray := prog_7_method_14_code
def yX5_at : MethodName := ⟨RX5, "at", "(II)I"⟩
abbrev cX5_personIs : ByteArray := prog_7_method_15_code
def yX5_personIs : MethodName := ⟨RX5, "personIs", "(II)I"⟩
abbrev cX5_prize : ByteArray := prog_7_method_16_code
def yX5_prize : MethodName := ⟨RX5, "prize", "(II)I"⟩
abbrev cX5_comes : ByteArray := prog_7_method_17_code
def yX5_comes : MethodName := ⟨RX5, "comes", "(IIII)I"⟩
abbrev cX5_person : ByteArray := prog_7_method_18_code
def yX5_person : MethodName := ⟨RX5, "person", "(II)I"⟩
abbrev cX5_planners : ByteArray := prog_7_method_19_code
def yX5_planners : MethodName := ⟨RX5, "planners", "(I)I"⟩
abbrev cX5_seenAt : ByteArray := prog_7_method_20_code
def yX5_seenAt : MethodName := ⟨RX5, "seenAt", "(II)I"⟩
abbrev cX5_canSee : ByteArray := prog_7_method_21_code
def yX5_canSee : MethodName := ⟨RX5, "canSee", "(II)Z"⟩
abbrev cX5_loverWish : ByteArray := prog_7_method_22_code
def yX5_loverWish : MethodName := ⟨RX5, "loverWish", "(III)I"⟩
abbrev cX5_wishAt : ByteArray := prog_7_method_23_code
def yX5_wishAt : MethodName := ⟨RX5, "wishAt", "(II)I"⟩
abbrev cX5_choiceOf : ByteArray := prog_7_method_24_code
def yX5_choiceOf : MethodName := ⟨RX5, "choiceOf", "(I)I"⟩
abbrev cX5_comers : ByteArray := prog_7_method_25_code
def yX5_comers : MethodName := ⟨RX5, "comers", "(I)I"⟩
abbrev cX5_looksAt : ByteArray := prog_7_method_26_code
def yX5_looksAt : MethodName := ⟨RX5, "looksAt", "()V"⟩
abbrev cX5_doesRegret : ByteArray := prog_7_method_27_code
def yX5_doesRegret : MethodName := ⟨RX5, "doesRegret", "(I)Z"⟩
abbrev cX5_place : ByteArray := prog_7_method_28_code
def yX5_place : MethodName := ⟨RX5, "place", "(II)I"⟩
abbrev cX5_of : ByteArray := prog_7_method_29_code
def yX5_of : MethodName := ⟨RX5, "of", "(II)I"⟩
abbrev cX5_mayBe : ByteArray := prog_7_method_30_code
def yX5_mayBe : MethodName := ⟨RX5, "mayBe", "(III)Z"⟩
abbrev cX5_change : ByteArray := prog_7_method_31_code
def yX5_change : MethodName := ⟨RX5, "change", "(III)I"⟩
abbrev cX5_seen : ByteArray := prog_7_method_32_code
def yX5_seen : MethodName := ⟨RX5, "seen", "(II)I"⟩
abbrev cX5_wishes : ByteArray := prog_7_method_33_code
def yX5_wishes : MethodName := ⟨RX5, "wishes", "(II)I"⟩
abbrev cX5_goes : ByteArray := prog_7_method_34_code
def yX5_goes : MethodName := ⟨RX5, "goes", "()V"⟩
abbrev cX5_goesOn : ByteArray := prog_7_method_35_code
def yX5_goesOn : MethodName := ⟨RX5, "goesOn", "(I)V"⟩
abbrev cX5_goodsAll : ByteArray := prog_7_method_36_code
def yX5_goodsAll : MethodName := ⟨RX5, "goodsAll", "()I"⟩
abbrev cX5_go : ByteArray := prog_7_method_37_code
def yX5_go : MethodName := ⟨RX5, "go", "(I)I"⟩
abbrev cX5_whoRegrets : ByteArray := prog_7_method_38_code
def yX5_whoRegrets : MethodName := ⟨RX5, "whoRegrets", "()I"⟩
abbrev cX5_comePlaces : ByteArray := prog_7_method_39_code
def yX5_comePlaces : MethodName := ⟨RX5, "comePlaces", "()I"⟩
abbrev cX5_whoMoves : ByteArray := prog_7_method_40_code
def yX5_whoMoves : MethodName := ⟨RX5, "whoMoves", "()I"⟩
abbrev cX5_richest : ByteArray := prog_7_method_41_code
def yX5_richest : MethodName := ⟨RX5, "richest", "()I"⟩
abbrev cX5_now : ByteArray := prog_7_method_42_code
def yX5_now : MethodName := ⟨RX5, "now", "(I)I"⟩
abbrev cX5_behind : ByteArray := prog_7_method_43_code
def yX5_behind : MethodName := ⟨RX5, "behind", "(II)I"⟩
abbrev cX5_isAhead : ByteArray := prog_7_method_44_code
def yX5_isAhead : MethodName := ⟨RX5, "isAhead", "(I)Z"⟩
abbrev cX5_ahead : ByteArray := prog_7_method_45_code
def yX5_ahead : MethodName := ⟨RX5, "ahead", "(II)I"⟩
abbrev cX5_plan : ByteArray := prog_7_method_46_code
def yX5_plan : MethodName := ⟨RX5, "plan", "(II)I"⟩
abbrev cX5_rests : ByteArray := prog_7_method_47_code
def yX5_rests : MethodName := ⟨RX5, "rests", "()I"⟩
abbrev cX5_arePlansAside : ByteArray := prog_7_method_48_code
def yX5_arePlansAside : MethodName := ⟨RX5, "arePlansAside", "()Z"⟩
abbrev cX5_round : ByteArray := prog_7_method_49_code
def yX5_round : MethodName := ⟨RX5, "round", "()I"⟩
abbrev cX5_doMeet : ByteArray := prog_7_method_50_code
def yX5_doMeet : MethodName := ⟨RX5, "doMeet", "(II)Z"⟩
abbrev cX5_meet : ByteArray := prog_7_method_51_code
def yX5_meet : MethodName := ⟨RX5, "meet", "(II)I"⟩
abbrev cX5_crowd : ByteArray := prog_7_method_52_code
def yX5_crowd : MethodName := ⟨RX5, "crowd", "(III)I"⟩
abbrev cX5_bestFor : ByteArray := prog_7_method_53_code
def yX5_bestFor : MethodName := ⟨RX5, "bestFor", "(IIIII)I"⟩
abbrev cX5_isTried : ByteArray := prog_7_method_54_code
def yX5_isTried : MethodName := ⟨RX5, "isTried", "(II)Z"⟩
abbrev cX5_planFor : ByteArray := prog_7_method_55_code
def yX5_planFor : MethodName := ⟨RX5, "planFor", "(II)I"⟩
abbrev cX5_kindFor : ByteArray := prog_7_method_56_code
def yX5_kindFor : MethodName := ⟨RX5, "kindFor", "(II)I"⟩
abbrev cX5_looksFor : ByteArray := prog_7_method_57_code
def yX5_looksFor : MethodName := ⟨RX5, "looksFor", "(II)I"⟩
abbrev cX5_loveFor : ByteArray := prog_7_method_58_code
def yX5_loveFor : MethodName := ⟨RX5, "loveFor", "(II)I"⟩
abbrev cX5_manyNow : ByteArray := prog_7_method_59_code
def yX5_manyNow : MethodName := ⟨RX5, "manyNow", "(I)I"⟩
abbrev cX5_prizeFor : ByteArray := prog_7_method_60_code
def yX5_prizeFor : MethodName := ⟨RX5, "prizeFor", "(II)I"⟩
abbrev cX5_manyIfTold : ByteArray := prog_7_method_61_code
def yX5_manyIfTold : MethodName := ⟨RX5, "manyIfTold", "(II)I"⟩
abbrev cX5_tell : ByteArray := prog_7_method_62_code
def yX5_tell : MethodName := ⟨RX5, "tell", "(II)I"⟩
abbrev cX5_goodsWithout : ByteArray := prog_7_method_63_code
def yX5_goodsWithout : MethodName := ⟨RX5, "goodsWithout", "(I)I"⟩
abbrev cX5_away : ByteArray := prog_7_method_64_code
def yX5_away : MethodName := ⟨RX5, "away", "()I"⟩
abbrev cX5_goodsSwapped : ByteArray := prog_7_method_65_code
def yX5_goodsSwapped : MethodName := ⟨RX5, "goodsSwapped", "(III)I"⟩
abbrev cX5_swapFor : ByteArray := prog_7_method_66_code
def yX5_swapFor : MethodName := ⟨RX5, "swapFor", "(I)I"⟩
abbrev cX5_lacks : ByteArray := prog_7_method_67_code
def yX5_lacks : MethodName := ⟨RX5, "lacks", "(I)I"⟩
abbrev cX5_wentSo : ByteArray := prog_7_method_68_code
def yX5_wentSo : MethodName := ⟨RX5, "wentSo", "(II)Z"⟩
abbrev cX5_fitting : ByteArray := prog_7_method_69_code
def yX5_fitting : MethodName := ⟨RX5, "fitting", "(IIII)I"⟩
abbrev cX5_fits : ByteArray := prog_7_method_70_code
def yX5_fits : MethodName := ⟨RX5, "fits", "(II)I"⟩
abbrev cX5_kinds : ByteArray := prog_7_method_71_code
def yX5_kinds : MethodName := ⟨RX5, "kinds", "(II)I"⟩
abbrev cX5_drawn : ByteArray := prog_7_method_72_code
def yX5_drawn : MethodName := ⟨RX5, "drawn", "()I"⟩
abbrev cX5_weather : ByteArray := prog_7_method_73_code
def yX5_weather : MethodName := ⟨RX5, "weather", "(I)I"⟩
abbrev cX5_odds : ByteArray := prog_7_method_74_code
def yX5_odds : MethodName := ⟨RX5, "odds", "(II)J"⟩
abbrev cX5_seed : ByteArray := prog_7_method_75_code
def yX5_seed : MethodName := ⟨RX5, "seed", "(I)I"⟩
abbrev cX5_feed : ByteArray := prog_7_method_76_code
def yX5_feed : MethodName := ⟨RX5, "feed", "(II)I"⟩
abbrev cX5_wipe : ByteArray := prog_7_method_77_code
def yX5_wipe : MethodName := ⟨RX5, "wipe", "()I"⟩
abbrev cX5_byteAt : ByteArray := prog_7_method_78_code
def yX5_byteAt : MethodName := ⟨RX5, "byteAt", "(I)I"⟩
abbrev cX5_next : ByteArray := prog_7_method_79_code
def yX5_next : MethodName := ⟨RX5, "next", "()V"⟩
abbrev cX5_isWord : ByteArray := prog_7_method_80_code
def yX5_isWord : MethodName := ⟨RX5, "isWord", "(Ljava/lang/String;)Z"⟩
abbrev cX5_must : ByteArray := prog_7_method_81_code
def yX5_must : MethodName := ⟨RX5, "must", "(Z)V"⟩
abbrev cX5_number : ByteArray := prog_7_method_82_code
def yX5_number : MethodName := ⟨RX5, "number", "(II)I"⟩
abbrev cX5_addItem : ByteArray := prog_7_method_83_code
def yX5_addItem : MethodName := ⟨RX5, "addItem", "(IIII)V"⟩
abbrev cX5_kindTold : ByteArray := prog_7_method_84_code
def yX5_kindTold : MethodName := ⟨RX5, "kindTold", "()I"⟩
abbrev cX5_afterWord : ByteArray := prog_7_method_85_code
def yX5_afterWord : MethodName := ⟨RX5, "afterWord", "(Ljava/lang/String;II)I"⟩
abbrev cX5_readItem : ByteArray := prog_7_method_86_code
def yX5_readItem : MethodName := ⟨RX5, "readItem", "()V"⟩
abbrev cX5_isToldSo : ByteArray := prog_7_method_87_code
def yX5_isToldSo : MethodName := ⟨RX5, "isToldSo", "(I)I"⟩
abbrev cX5_text : ByteArray := prog_7_method_88_code
def yX5_text : MethodName := ⟨RX5, "text", "()I"⟩
abbrev cX5_isSpot : ByteArray := prog_7_method_89_code
def yX5_isSpot : MethodName := ⟨RX5, "isSpot", "(I)Z"⟩
abbrev cX5_hold : ByteArray := prog_7_method_90_code
def yX5_hold : MethodName := ⟨RX5, "hold", "(II)I"⟩
abbrev cX5_as : ByteArray := prog_7_method_91_code
def yX5_as : MethodName := ⟨RX5, "as", "(II)I"⟩
abbrev cX5_isSheet : ByteArray := prog_7_method_92_code
def yX5_isSheet : MethodName := ⟨RX5, "isSheet", "(I)Z"⟩
abbrev cX5_cutTo : ByteArray := prog_7_method_93_code
def yX5_cutTo : MethodName := ⟨RX5, "cutTo", "(II)I"⟩
abbrev cX5_sheet : ByteArray := prog_7_method_94_code
def yX5_sheet : MethodName := ⟨RX5, "sheet", "(III)I"⟩
abbrev cX5_write : ByteArray := prog_7_method_95_code
def yX5_write : MethodName := ⟨RX5, "write", "(III)I"⟩
abbrev cX5_copy : ByteArray := prog_7_method_96_code
def yX5_copy : MethodName := ⟨RX5, "copy", "(IIIII)I"⟩
abbrev cX5_above : ByteArray := prog_7_method_97_code
def yX5_above : MethodName := ⟨RX5, "above", "(I)I"⟩
abbrev cX5_isUnder : ByteArray := prog_7_method_98_code
def yX5_isUnder : MethodName := ⟨RX5, "isUnder", "(II)Z"⟩
abbrev cX5_load : ByteArray := prog_7_method_99_code
def yX5_load : MethodName := ⟨RX5, "load", "(I)I"⟩
abbrev cX5_judge : ByteArray := prog_7_method_100_code
def yX5_judge : MethodName := ⟨RX5, "judge", "(I)I"⟩
abbrev cX5_image : ByteArray := prog_7_method_101_code
def yX5_image : MethodName := ⟨RX5, "image", "()I"⟩
abbrev cX5_undo : ByteArray := prog_7_method_102_code
def yX5_undo : MethodName := ⟨RX5, "undo", "()I"⟩
abbrev cX5_tear : ByteArray := prog_7_method_103_code
def yX5_tear : MethodName := ⟨RX5, "tear", "()I"⟩
abbrev cX5_count : ByteArray := prog_7_method_104_code
def yX5_count : MethodName := ⟨RX5, "count", "(I)I"⟩
abbrev cX5_status : ByteArray := prog_7_method_105_code
def yX5_status : MethodName := ⟨RX5, "status", "(I)I"⟩
def RJx145de : String := "java/io/Serializable"
def TJx145de : u_T := fun k => match k with
  | _ => ("", "", "", false)
def tyJx145de : Nat → FieldType := fun k => match k with
  | _ => .int
abbrev wsJx145de0 : List Cond := u_ws RJx145de TJx145de 0
theorem nmJx145de : ∀ a, a < 0 → ∀ b, b < 0 → a ≠ b → (TJx145de a).2.1 ≠ (TJx145de b).2.1 := by decide +kernel
theorem tyJx145de_ok : ∀ k, k < 0 → parseFieldDescriptor (TJx145de k).2.2.1 = some (tyJx145de k) := by decide +kernel
def RJx9f9b0 : String := "java/lang/CharSequence"
def TJx9f9b0 : u_T := fun k => match k with
  | _ => ("", "", "", false)
def tyJx9f9b0 : Nat → FieldType := fun k => match k with
  | _ => .int
abbrev wsJx9f9b00 : List Cond := u_ws RJx9f9b0 TJx9f9b0 0
theorem nmJx9f9b0 : ∀ a, a < 0 → ∀ b, b < 0 → a ≠ b → (TJx9f9b0 a).2.1 ≠ (TJx9f9b0 b).2.1 := by decide +kernel
theorem tyJx9f9b0_ok : ∀ k, k < 0 → parseFieldDescriptor (TJx9f9b0 k).2.2.1 = some (tyJx9f9b0 k) := by decide +kernel
def RJxb160c : String := "java/lang/Comparable"
def TJxb160c : u_T := fun k => match k with
  | _ => ("", "", "", false)
def tyJxb160c : Nat → FieldType := fun k => match k with
  | _ => .int
abbrev wsJxb160c0 : List Cond := u_ws RJxb160c TJxb160c 0
theorem nmJxb160c : ∀ a, a < 0 → ∀ b, b < 0 → a ≠ b → (TJxb160c a).2.1 ≠ (TJxb160c b).2.1 := by decide +kernel
theorem tyJxb160c_ok : ∀ k, k < 0 → parseFieldDescriptor (TJxb160c k).2.2.1 = some (tyJxb160c k) := by decide +kernel
def RJ6 : String := "java/lang/Integer"
def TJ6 : u_T := fun k => match k with
  | _ => ("", "", "", false)
def tyJ6 : Nat → FieldType := fun k => match k with
  | _ => .int
abbrev wsJ60 : List Cond := u_ws RJ6 TJ6 0
theorem nmJ6 : ∀ a, a < 0 → ∀ b, b < 0 → a ≠ b → (TJ6 a).2.1 ≠ (TJ6 b).2.1 := by decide +kernel
theorem tyJ6_ok : ∀ k, k < 0 → parseFieldDescriptor (TJ6 k).2.2.1 = some (tyJ6 k) := by decide +kernel
abbrev cJ6_bitCount_0f7a4 : ByteArray := prog_8_method_49_code
def yJ6_bitCount_0f7a4 : MethodName := ⟨RJ6, "bitCount", "(I)I"⟩
def RJ9 : String := "java/lang/Math"
def TJ9 : u_T := fun k => match k with
  | _ => ("", "", "", false)
def tyJ9 : Nat → FieldType := fun k => match k with
  | _ => .int
abbrev wsJ90 : List Cond := u_ws RJ9 TJ9 0
theorem nmJ9 : ∀ a, a < 0 → ∀ b, b < 0 → a ≠ b → (TJ9 a).2.1 ≠ (TJ9 b).2.1 := by decide +kernel
theorem tyJ9_ok : ∀ k, k < 0 → parseFieldDescriptor (TJ9 k).2.2.1 = some (tyJ9 k) := by decide +kernel
abbrev cJ9_abs_0f7a4 : ByteArray := prog_9_method_59_code
def yJ9_abs_0f7a4 : MethodName := ⟨RJ9, "abs", "(I)I"⟩
abbrev cJ9_max_7cf53 : ByteArray := prog_9_method_65_code
def yJ9_max_7cf53 : MethodName := ⟨RJ9, "max", "(II)I"⟩
abbrev cJ9_min_7cf53 : ByteArray := prog_9_method_69_code
def yJ9_min_7cf53 : MethodName := ⟨RJ9, "min", "(II)I"⟩
def RJ0 : String := "java/lang/String"
def TJ0 : u_T := fun k => match k with
  | _ => ("", "", "", false)
def tyJ0 : Nat → FieldType := fun k => match k with
  | _ => .int
abbrev wsJ00 : List Cond := u_ws RJ0 TJ0 0
theorem nmJ0 : ∀ a, a < 0 → ∀ b, b < 0 → a ≠ b → (TJ0 a).2.1 ≠ (TJ0 b).2.1 := by decide +kernel
theorem tyJ0_ok : ∀ k, k < 0 → parseFieldDescriptor (TJ0 k).2.2.1 = some (tyJ0 k) := by decide +kernel
abbrev cJ0_length_8abf5 : ByteArray := prog_10_method_54_code
def yJ0_length_8abf5 : MethodName := ⟨RJ0, "length", "()I"⟩
abbrev cJ0_charAt_5068e : ByteArray := prog_10_method_56_code
def yJ0_charAt_5068e : MethodName := ⟨RJ0, "charAt", "(I)C"⟩
abbrev cJ0_coder_7d493 : ByteArray := prog_10_method_152_code
def yJ0_coder_7d493 : MethodName := ⟨RJ0, "coder", "()B"⟩
abbrev cJ0_isLatin1_aae02 : ByteArray := prog_10_method_154_code
def yJ0_isLatin1_aae02 : MethodName := ⟨RJ0, "isLatin1", "()Z"⟩
abbrev cJ0_checkIndex_df160 : ByteArray := prog_10_method_155_code
def yJ0_checkIndex_df160 : MethodName := ⟨RJ0, "checkIndex", "(II)V"⟩
def RJ1 : String := "java/lang/StringLatin1"
def TJ1 : u_T := fun k => match k with
  | _ => ("", "", "", false)
def tyJ1 : Nat → FieldType := fun k => match k with
  | _ => .int
abbrev wsJ10 : List Cond := u_ws RJ1 TJ1 0
theorem nmJ1 : ∀ a, a < 0 → ∀ b, b < 0 → a ≠ b → (TJ1 a).2.1 ≠ (TJ1 b).2.1 := by decide +kernel
theorem tyJ1_ok : ∀ k, k < 0 → parseFieldDescriptor (TJ1 k).2.2.1 = some (tyJ1 k) := by decide +kernel
abbrev cJ1_charAt_3b067 : ByteArray := prog_11_method_2_code
def yJ1_charAt_3b067 : MethodName := ⟨RJ1, "charAt", "([BI)C"⟩
def RJ2 : String := "java/lang/StringUTF16"
def TJ2 : u_T := fun k => match k with
  | _ => ("", "", "", false)
def tyJ2 : Nat → FieldType := fun k => match k with
  | _ => .int
abbrev wsJ20 : List Cond := u_ws RJ2 TJ2 0
theorem nmJ2 : ∀ a, a < 0 → ∀ b, b < 0 → a ≠ b → (TJ2 a).2.1 ≠ (TJ2 b).2.1 := by decide +kernel
theorem tyJ2_ok : ∀ k, k < 0 → parseFieldDescriptor (TJ2 k).2.2.1 = some (tyJ2 k) := by decide +kernel
abbrev cJ2_getChar_3b067 : ByteArray := prog_12_method_5_code
def yJ2_getChar_3b067 : MethodName := ⟨RJ2, "getChar", "([BI)C"⟩
abbrev cJ2_length_9d52b : ByteArray := prog_12_method_6_code
def yJ2_length_9d52b : MethodName := ⟨RJ2, "length", "([B)I"⟩
abbrev cJ2_charAt_3b067 : ByteArray := prog_12_method_83_code
def yJ2_charAt_3b067 : MethodName := ⟨RJ2, "charAt", "([BI)C"⟩
abbrev cJ2_checkIndex_2214a : ByteArray := prog_12_method_91_code
def yJ2_checkIndex_2214a : MethodName := ⟨RJ2, "checkIndex", "(I[B)V"⟩
def RJ10 : String := "java/lang/System"
def TJ10 : u_T := fun k => match k with
  | _ => ("", "", "", false)
def tyJ10 : Nat → FieldType := fun k => match k with
  | _ => .int
abbrev wsJ100 : List Cond := u_ws RJ10 TJ10 0
theorem nmJ10 : ∀ a, a < 0 → ∀ b, b < 0 → a ≠ b → (TJ10 a).2.1 ≠ (TJ10 b).2.1 := by decide +kernel
theorem tyJ10_ok : ∀ k, k < 0 → parseFieldDescriptor (TJ10 k).2.2.1 = some (tyJ10 k) := by decide +kernel
def RJxfd54e : String := "java/lang/constant/Constable"
def TJxfd54e : u_T := fun k => match k with
  | _ => ("", "", "", false)
def tyJxfd54e : Nat → FieldType := fun k => match k with
  | _ => .int
abbrev wsJxfd54e0 : List Cond := u_ws RJxfd54e TJxfd54e 0
theorem nmJxfd54e : ∀ a, a < 0 → ∀ b, b < 0 → a ≠ b → (TJxfd54e a).2.1 ≠ (TJxfd54e b).2.1 := by decide +kernel
theorem tyJxfd54e_ok : ∀ k, k < 0 → parseFieldDescriptor (TJxfd54e k).2.2.1 = some (tyJxfd54e k) := by decide +kernel
def RJx3cf43 : String := "java/lang/constant/ConstantDesc"
def TJx3cf43 : u_T := fun k => match k with
  | _ => ("", "", "", false)
def tyJx3cf43 : Nat → FieldType := fun k => match k with
  | _ => .int
abbrev wsJx3cf430 : List Cond := u_ws RJx3cf43 TJx3cf43 0
theorem nmJx3cf43 : ∀ a, a < 0 → ∀ b, b < 0 → a ≠ b → (TJx3cf43 a).2.1 ≠ (TJx3cf43 b).2.1 := by decide +kernel
theorem tyJx3cf43_ok : ∀ k, k < 0 → parseFieldDescriptor (TJx3cf43 k).2.2.1 = some (tyJx3cf43 k) := by decide +kernel
def RJ7 : String := "java/util/Arrays"
def TJ7 : u_T := fun k => match k with
  | _ => ("", "", "", false)
def tyJ7 : Nat → FieldType := fun k => match k with
  | _ => .int
abbrev wsJ70 : List Cond := u_ws RJ7 TJ7 0
theorem nmJ7 : ∀ a, a < 0 → ∀ b, b < 0 → a ≠ b → (TJ7 a).2.1 ≠ (TJ7 b).2.1 := by decide +kernel
theorem tyJ7_ok : ∀ k, k < 0 → parseFieldDescriptor (TJ7 k).2.2.1 = some (tyJ7 k) := by decide +kernel
abbrev cJ7_fill_53178 : ByteArray := prog_14_method_103_code
def yJ7_fill_53178 : MethodName := ⟨RJ7, "fill", "([II)V"⟩
def RJ3 : String := "jdk/internal/util/Preconditions"
def TJ3 : u_T := fun k => match k with
  | _ => ("", "", "", false)
def tyJ3 : Nat → FieldType := fun k => match k with
  | _ => .int
abbrev wsJ30 : List Cond := u_ws RJ3 TJ3 0
theorem nmJ3 : ∀ a, a < 0 → ∀ b, b < 0 → a ≠ b → (TJ3 a).2.1 ≠ (TJ3 b).2.1 := by decide +kernel
theorem tyJ3_ok : ∀ k, k < 0 → parseFieldDescriptor (TJ3 k).2.2.1 = some (tyJ3 k) := by decide +kernel
abbrev cJ3_checkIndex_8e157 : ByteArray := prog_15_method_11_code
def yJ3_checkIndex_8e157 : MethodName := ⟨RJ3, "checkIndex", "(IILjava/util/function/BiFunction;)I"⟩
def RL : String := "TwoTuesdaysLaw"
abbrev cL_law : ByteArray := code
def yL_law : MethodName := ⟨RL, "law", "([I)Z"⟩
def wsL_law_r1 : List Cond := [Cond.classLink RL 7 RX4, Cond.instantiable RX4 7, Cond.initialized RX4, Cond.classLink RL 10 RX5, Cond.instantiable RX5 23, Cond.initialized RX5, Cond.methodLink RL 9 yX4_init, Cond.instanceMethod yX4_init, Cond.code yX4_init cX4_init 2 none, Cond.methodLink RX4 3 objectInit, Cond.instanceMethod objectInit, Cond.code objectInit ⟨#[0xb1]⟩ 1 none, Cond.classLink RX4 9 RX3, Cond.instantiable RX3 13, Cond.initialized RX3, Cond.fieldLink RX4 12 "TwoTuesdays" "town" "LTwoTuesdays$Town;", Cond.fieldLink RX4 16 "TwoTuesdays" "kept" "LTwoTuesdays$Town;", Cond.fieldLink RX4 19 "TwoTuesdays" "trial" "LTwoTuesdays$Town;", Cond.classLink RX4 22 RX2, Cond.instantiable RX2 4, Cond.initialized RX2, Cond.fieldLink RX4 25 "TwoTuesdays" "reader" "LTwoTuesdays$TextReader;", Cond.classLink RX4 29 RX0, Cond.fieldLink RX4 31 "TwoTuesdays" "sheets" "[LTwoTuesdays$Sheet;"]
def wsL_law_r2 : List Cond := [Cond.instantiable RX0 3, Cond.initialized RX0, Cond.arrayClass .int, Cond.fieldLink RX4 36 "TwoTuesdays" "told" "[I", Cond.fieldLink RX4 40 "TwoTuesdays" "isKept" "Z", Cond.methodLink RX4 11 yX3_init, Cond.instanceMethod yX3_init, Cond.code yX3_init cX3_init 1 none, Cond.methodLink RX3 3 objectInit, Cond.fieldLink RX3 9 "TwoTuesdays$Town" "prizeAt" "[I", Cond.fieldLink RX3 15 "TwoTuesdays$Town" "kindOf" "[I", Cond.fieldLink RX3 18 "TwoTuesdays$Town" "planOf" "[I", Cond.fieldLink RX3 21 "TwoTuesdays$Town" "looksOf" "[I", Cond.fieldLink RX3 24 "TwoTuesdays$Town" "loveOf" "[I", Cond.fieldLink RX3 27 "TwoTuesdays$Town" "goodsOf" "[I", Cond.fieldLink RX3 30 "TwoTuesdays$Town" "heldAt" "[I", Cond.fieldLink RX3 33 "TwoTuesdays$Town" "plannedAt" "[I", Cond.fieldLink RX3 36 "TwoTuesdays$Town" "choiceOf" "[I", Cond.fieldLink RX3 39 "TwoTuesdays$Town" "chosenAt" "[I", Cond.fieldLink RX3 48 "TwoTuesdays$Town" "people" "I", Cond.fieldLink RX3 52 "TwoTuesdays$Town" "tuesday" "I", Cond.fieldLink RX3 55 "TwoTuesdays$Town" "z" "I", Cond.methodLink RX3 42 yJ7_fill_53178, Cond.static yJ7_fill_53178]
def wsL_law_r3 : List Cond := [Cond.initialized RJ7, Cond.code yJ7_fill_53178 cJ7_fill_53178 4 none, Cond.instanceMethod yX2_init, Cond.code yX2_init cX2_init 1 none, Cond.methodLink RX2 3 objectInit, Cond.classLink RX2 9 RX1, Cond.instantiable RX1 6, Cond.initialized RX1, Cond.fieldLink RX2 12 "TwoTuesdays$TextReader" "tape" "LTwoTuesdays$Tape;", Cond.classLink RX2 18 RX3, Cond.fieldLink RX2 21 "TwoTuesdays$TextReader" "draft" "LTwoTuesdays$Town;", Cond.instanceMethod yX1_init, Cond.code yX1_init cX1_init 1 none, Cond.methodLink RX1 3 objectInit, Cond.fieldLink RX1 9 "TwoTuesdays$Tape" "bytes" "[I", Cond.methodLink RX2 20 yX3_init, Cond.instanceMethod yX0_init, Cond.code yX0_init cX0_init 1 none, Cond.methodLink RX0 3 objectInit, Cond.fieldLink RX0 9 "TwoTuesdays$Sheet" "numbers" "[I", Cond.methodLink RL 12 yX5_init, Cond.instanceMethod yX5_init, Cond.code yX5_init cX5_init 2 none, Cond.methodLink RX5 1 objectInit]
def wsL_law_r4 : List Cond := [Cond.fieldLink RX5 9 "TwoTuesdaysModel" "now" "[I", Cond.fieldLink RX5 13 "TwoTuesdaysModel" "kept" "[I", Cond.fieldLink RX5 16 "TwoTuesdaysModel" "aside" "[I", Cond.fieldLink RX5 19 "TwoTuesdaysModel" "found" "[I", Cond.fieldLink RX5 22 "TwoTuesdaysModel" "choices" "[I", Cond.fieldLink RX5 25 "TwoTuesdaysModel" "gets" "[I", Cond.fieldLink RX5 28 "TwoTuesdaysModel" "away" "I", Cond.fieldLink RX5 32 "TwoTuesdaysModel" "tape" "[I", Cond.classLink RX5 35 RJ0, Cond.fieldLink RX5 51 "TwoTuesdaysModel" "kindNames" "[Ljava/lang/String;", Cond.fieldLink RX5 55 "TwoTuesdaysModel" "items" "[I", Cond.fieldLink RX5 58 "TwoTuesdaysModel" "widths" "[I", Cond.fieldLink RX5 61 "TwoTuesdaysModel" "sizes" "[I", Cond.fieldLink RX5 64 "TwoTuesdaysModel" "numbers" "[I", Cond.fieldLink RX5 67 "TwoTuesdaysModel" "moved" "[I", Cond.methodLink RL 13 yX4_prize, Cond.instanceMethod yX4_prize, Cond.selects RX4 yX4_prize yX4_prize, Cond.code yX4_prize cX4_prize 4 (some .int), Cond.constant RX4 52 (-1000001), Cond.fieldLink RX4 57 "TwoTuesdays$Town" "prizeAt" "[I", Cond.methodLink RX4 44 yX4_isPlace, Cond.static yX4_isPlace, Cond.code yX4_isPlace cX4_isPlace 1 (some .boolean)]
def wsL_law_r5 : List Cond := [Cond.methodLink RX4 48 yX4_isWithin, Cond.static yX4_isWithin, Cond.code yX4_isWithin cX4_isWithin 3 (some .boolean), Cond.methodLink RX4 53 yX4_found, Cond.instanceMethod yX4_found, Cond.selects RX4 yX4_found yX4_found, Cond.code yX4_found cX4_found 3 (some .int), Cond.methodLink RL 17 yX5_prize, Cond.instanceMethod yX5_prize, Cond.selects RX5 yX5_prize yX5_prize, Cond.code yX5_prize cX5_prize 3 (some .int), Cond.constant RX5 70 (-1000001), Cond.methodLink RX5 88 yX5_isPlace, Cond.static yX5_isPlace, Cond.code yX5_isPlace cX5_isPlace 1 (some .boolean), Cond.methodLink RX5 80 yX5_within, Cond.static yX5_within, Cond.code yX5_within cX5_within 3 (some .boolean), Cond.methodLink RX5 92 yX5_isPrize, Cond.static yX5_isPrize, Cond.code yX5_isPrize cX5_isPrize 1 (some .boolean), Cond.methodLink RX5 95 yX5_become, Cond.instanceMethod yX5_become, Cond.selects RX5 yX5_become yX5_become]
def wsL_law_r6 : List Cond := [Cond.code yX5_become cX5_become 4 (some .int), Cond.methodLink RX5 76 yX5_finding, Cond.instanceMethod yX5_finding, Cond.selects RX5 yX5_finding yX5_finding, Cond.code yX5_finding cX5_finding 2 (some .int), Cond.methodLink RL 18 yX4_place, Cond.instanceMethod yX4_place, Cond.selects RX4 yX4_place yX4_place, Cond.code yX4_place cX4_place 3 (some .int), Cond.methodLink RX4 60 yX3_settle, Cond.instanceMethod yX3_settle, Cond.selects RX3 yX3_settle yX3_settle, Cond.code yX3_settle cX3_settle 3 none, Cond.methodLink RX3 76 yX3_bestPlaceFor, Cond.instanceMethod yX3_bestPlaceFor, Cond.selects RX3 yX3_bestPlaceFor yX3_bestPlaceFor, Cond.code yX3_bestPlaceFor cX3_bestPlaceFor 8 (some .int), Cond.methodLink RX3 84 Lib.Math.min.name, Cond.static Lib.Math.min.name, Cond.initialized "java/lang/Math", Cond.code Lib.Math.min.name Lib.Math.min.code 2 (some .int), Cond.methodLink RX3 89 Lib.Math.max.name, Cond.static Lib.Math.max.name, Cond.code Lib.Math.max.name Lib.Math.max.code 2 (some .int)]
def wsL_law_r7 : List Cond := [Cond.methodLink RX3 80 yX3_wishAt, Cond.instanceMethod yX3_wishAt, Cond.selects RX3 yX3_wishAt yX3_wishAt, Cond.code yX3_wishAt cX3_wishAt 9 (some .int), Cond.methodLink RX4 63 yX3_plannersOf, Cond.instanceMethod yX3_plannersOf, Cond.selects RX3 yX3_plannersOf yX3_plannersOf, Cond.code yX3_plannersOf cX3_plannersOf 4 (some .int), Cond.methodLink RX4 66 yX3_choosersOf, Cond.instanceMethod yX3_choosersOf, Cond.selects RX3 yX3_choosersOf yX3_choosersOf, Cond.code yX3_choosersOf cX3_choosersOf 4 (some .int), Cond.methodLink RL 21 yX5_place, Cond.instanceMethod yX5_place, Cond.selects RX5 yX5_place yX5_place, Cond.code yX5_place cX5_place 3 (some .int), Cond.methodLink RX5 140 yX5_looksAt, Cond.instanceMethod yX5_looksAt, Cond.selects RX5 yX5_looksAt yX5_looksAt, Cond.code yX5_looksAt cX5_looksAt 2 none, Cond.methodLink RX5 134 yX5_choiceOf, Cond.instanceMethod yX5_choiceOf, Cond.selects RX5 yX5_choiceOf yX5_choiceOf, Cond.code yX5_choiceOf cX5_choiceOf 5 (some .int)]
def wsL_law_r8 : List Cond := [Cond.methodLink RX5 106 yX5_personIs, Cond.instanceMethod yX5_personIs, Cond.selects RX5 yX5_personIs yX5_personIs, Cond.code yX5_personIs cX5_personIs 3 (some .int), Cond.methodLink RX5 84 yX5_at, Cond.static yX5_at, Cond.code yX5_at cX5_at 2 (some .int), Cond.methodLink RX5 127 yX5_wishAt, Cond.instanceMethod yX5_wishAt, Cond.selects RX5 yX5_wishAt yX5_wishAt, Cond.code yX5_wishAt cX5_wishAt 5 (some .int), Cond.methodLink RX5 120 yX5_seenAt, Cond.instanceMethod yX5_seenAt, Cond.selects RX5 yX5_seenAt yX5_seenAt, Cond.code yX5_seenAt cX5_seenAt 3 (some .int), Cond.methodLink RX5 109 yX5_planners, Cond.instanceMethod yX5_planners, Cond.selects RX5 yX5_planners yX5_planners, Cond.code yX5_planners cX5_planners 4 (some .int), Cond.methodLink RX5 112 yX5_bits, Cond.static yX5_bits, Cond.code yX5_bits cX5_bits 3 (some .int), Cond.methodLink RX5 123 yX5_loverWish, Cond.instanceMethod yX5_loverWish]
def wsL_law_r9 : List Cond := [Cond.selects RX5 yX5_loverWish yX5_loverWish, Cond.code yX5_loverWish cX5_loverWish 6 (some .int), Cond.methodLink RX5 130 yX5_canSee, Cond.instanceMethod yX5_canSee, Cond.selects RX5 yX5_canSee yX5_canSee, Cond.code yX5_canSee cX5_canSee 3 (some .boolean), Cond.methodLink RX5 115 Lib.Math.abs.name, Cond.static Lib.Math.abs.name, Cond.code Lib.Math.abs.name Lib.Math.abs.code 1 (some .int), Cond.methodLink RX5 137 yX5_comers, Cond.instanceMethod yX5_comers, Cond.selects RX5 yX5_comers yX5_comers, Cond.code yX5_comers cX5_comers 4 (some .int), Cond.methodLink RL 22 yX4_person, Cond.instanceMethod yX4_person, Cond.selects RX4 yX4_person yX4_person, Cond.code yX4_person cX4_person 4 (some .int), Cond.constant RX4 76 (-1000002), Cond.methodLink RX4 69 yX4_isKind, Cond.static yX4_isKind, Cond.code yX4_isKind cX4_isKind 1 (some .boolean), Cond.methodLink RX4 72 yX3_addOne, Cond.instanceMethod yX3_addOne, Cond.selects RX3 yX3_addOne yX3_addOne]
def wsL_law_r10 : List Cond := [Cond.code yX3_addOne cX3_addOne 4 (some .int), Cond.methodLink RL 25 yX5_person, Cond.instanceMethod yX5_person, Cond.selects RX5 yX5_person yX5_person, Cond.code yX5_person cX5_person 3 (some .int), Cond.constant RX5 101 (-1000002), Cond.methodLink RX5 98 yX5_isKind, Cond.static yX5_isKind, Cond.code yX5_isKind cX5_isKind 1 (some .boolean), Cond.methodLink RX5 102 yX5_comes, Cond.instanceMethod yX5_comes, Cond.selects RX5 yX5_comes yX5_comes, Cond.code yX5_comes cX5_comes 6 (some .int), Cond.methodLink RL 26 yX4_of, Cond.instanceMethod yX4_of, Cond.selects RX4 yX4_of yX4_of, Cond.code yX4_of cX4_of 3 (some .int), Cond.fieldLink RX4 83 "TwoTuesdays$Town" "choiceOf" "[I", Cond.methodLink RX4 77 yX4_isThere, Cond.instanceMethod yX4_isThere, Cond.selects RX4 yX4_isThere yX4_isThere, Cond.code yX4_isThere cX4_isThere 2 (some .boolean), Cond.fieldLink RX4 165 "TwoTuesdays$Town" "people" "I", Cond.methodLink RX4 80 yX3_traitOf]
def wsL_law_r11 : List Cond := [Cond.instanceMethod yX3_traitOf, Cond.selects RX3 yX3_traitOf yX3_traitOf, Cond.code yX3_traitOf cX3_traitOf 3 (some .int), Cond.methodLink RX4 86 yX3_getsNow, Cond.instanceMethod yX3_getsNow, Cond.selects RX3 yX3_getsNow yX3_getsNow, Cond.code yX3_getsNow cX3_getsNow 3 (some .int), Cond.static yX4_shareOf, Cond.code yX4_shareOf cX4_shareOf 2 (some .int), Cond.methodLink RX4 89 yX3_regretsNow, Cond.instanceMethod yX3_regretsNow, Cond.selects RX3 yX3_regretsNow yX3_regretsNow, Cond.code yX3_regretsNow cX3_regretsNow 4 (some .boolean), Cond.methodLink RX3 98 yX3_getsNow, Cond.methodLink RL 29 yX5_of, Cond.instanceMethod yX5_of, Cond.selects RX5 yX5_of yX5_of, Cond.code yX5_of cX5_of 3 (some .int), Cond.methodLink RX5 143 yX5_isPerson, Cond.instanceMethod yX5_isPerson, Cond.selects RX5 yX5_isPerson yX5_isPerson, Cond.code yX5_isPerson cX5_isPerson 2 (some .boolean), Cond.methodLink RX5 146 yX5_doesRegret, Cond.instanceMethod yX5_doesRegret]
def wsL_law_r12 : List Cond := [Cond.selects RX5 yX5_doesRegret yX5_doesRegret, Cond.code yX5_doesRegret cX5_doesRegret 4 (some .boolean), Cond.methodLink RL 30 yX4_change, Cond.instanceMethod yX4_change, Cond.selects RX4 yX4_change yX4_change, Cond.code yX4_change cX4_change 5 (some .int), Cond.methodLink RX4 92 yX3_mayBecome, Cond.instanceMethod yX3_mayBecome, Cond.selects RX3 yX3_mayBecome yX3_mayBecome, Cond.code yX3_mayBecome cX3_mayBecome 4 (some .boolean), Cond.constant RX3 75 (99999), Cond.methodLink RX4 95 yX3_setTrait, Cond.instanceMethod yX3_setTrait, Cond.selects RX3 yX3_setTrait yX3_setTrait, Cond.code yX3_setTrait cX3_setTrait 4 none, Cond.methodLink RL 34 yX5_change, Cond.instanceMethod yX5_change, Cond.selects RX5 yX5_change yX5_change, Cond.code yX5_change cX5_change 4 (some .int), Cond.methodLink RX5 150 yX5_mayBe, Cond.instanceMethod yX5_mayBe, Cond.selects RX5 yX5_mayBe yX5_mayBe, Cond.code yX5_mayBe cX5_mayBe 4 (some .boolean), Cond.constant RX5 149 (99999)]
def wsL_law_r13 : List Cond := [Cond.methodLink RL 35 yX4_seen, Cond.instanceMethod yX4_seen, Cond.selects RX4 yX4_seen yX4_seen, Cond.code yX4_seen cX4_seen 3 (some .int), Cond.constant RX4 103 (-1000004), Cond.methodLink RX4 99 yX3_canSee, Cond.instanceMethod yX3_canSee, Cond.selects RX3 yX3_canSee yX3_canSee, Cond.code yX3_canSee cX3_canSee 3 (some .boolean), Cond.methodLink RX3 92 Lib.Math.abs.name, Cond.methodLink RX4 104 yX3_seenBy, Cond.instanceMethod yX3_seenBy, Cond.selects RX3 yX3_seenBy yX3_seenBy, Cond.code yX3_seenBy cX3_seenBy 3 (some .int), Cond.methodLink RL 38 yX5_seen, Cond.instanceMethod yX5_seen, Cond.selects RX5 yX5_seen yX5_seen, Cond.code yX5_seen cX5_seen 3 (some .int), Cond.constant RX5 75 (-1000004), Cond.methodLink RL 39 yX4_wishes, Cond.instanceMethod yX4_wishes, Cond.selects RX4 yX4_wishes yX4_wishes, Cond.code yX4_wishes cX4_wishes 3 (some .int), Cond.methodLink RX4 107 yX3_wishAt]
def wsL_law_r14 : List Cond := [Cond.methodLink RL 42 yX5_wishes, Cond.instanceMethod yX5_wishes, Cond.selects RX5 yX5_wishes yX5_wishes, Cond.code yX5_wishes cX5_wishes 3 (some .int), Cond.methodLink RL 43 yX4_go, Cond.instanceMethod yX4_go, Cond.selects RX4 yX4_go yX4_go, Cond.code yX4_go cX4_go 2 (some .int), Cond.fieldLink RX4 110 "TwoTuesdays$Town" "tuesday" "I", Cond.constant RX4 114 (99999), Cond.constant RX4 115 (-1000005), Cond.methodLink RX4 116 yX3_passTuesdays, Cond.instanceMethod yX3_passTuesdays, Cond.selects RX3 yX3_passTuesdays yX3_passTuesdays, Cond.code yX3_passTuesdays cX3_passTuesdays 4 none, Cond.methodLink RX3 95 yX3_settle, Cond.methodLink RX4 120 yX3_goodsOfAll, Cond.instanceMethod yX3_goodsOfAll, Cond.selects RX3 yX3_goodsOfAll yX3_goodsOfAll, Cond.code yX3_goodsOfAll cX3_goodsOfAll 3 (some .int), Cond.methodLink RL 47 yX5_go, Cond.instanceMethod yX5_go, Cond.selects RX5 yX5_go yX5_go, Cond.code yX5_go cX5_go 2 (some .int)]
def wsL_law_r15 : List Cond := [Cond.constant RX5 159 (-1000005), Cond.methodLink RX5 160 yX5_goesOn, Cond.instanceMethod yX5_goesOn, Cond.selects RX5 yX5_goesOn yX5_goesOn, Cond.code yX5_goesOn cX5_goesOn 3 none, Cond.methodLink RX5 156 yX5_goes, Cond.instanceMethod yX5_goes, Cond.selects RX5 yX5_goes yX5_goes, Cond.code yX5_goes cX5_goes 3 none, Cond.methodLink RX5 153 Lib.Math.min.name, Cond.methodLink RX5 164 yX5_goodsAll, Cond.instanceMethod yX5_goodsAll, Cond.selects RX5 yX5_goodsAll yX5_goodsAll, Cond.code yX5_goodsAll cX5_goodsAll 3 (some .int), Cond.methodLink RL 48 yX4_now, Cond.instanceMethod yX4_now, Cond.selects RX4 yX4_now yX4_now, Cond.code yX4_now cX4_now 2 (some .int), Cond.methodLink RX4 124 yX3_regretters, Cond.instanceMethod yX3_regretters, Cond.selects RX3 yX3_regretters yX3_regretters, Cond.code yX3_regretters cX3_regretters 3 (some .int), Cond.methodLink RX3 104 yX3_regretsNow, Cond.methodLink RX4 127 yX3_visitedPlaces]
def wsL_law_r16 : List Cond := [Cond.instanceMethod yX3_visitedPlaces, Cond.selects RX3 yX3_visitedPlaces yX3_visitedPlaces, Cond.code yX3_visitedPlaces cX3_visitedPlaces 3 (some .int), Cond.methodLink RX4 130 yX3_movers, Cond.instanceMethod yX3_movers, Cond.selects RX3 yX3_movers yX3_movers, Cond.code yX3_movers cX3_movers 3 (some .int), Cond.methodLink RX4 133 yX3_richest, Cond.instanceMethod yX3_richest, Cond.selects RX3 yX3_richest yX3_richest, Cond.code yX3_richest cX3_richest 3 (some .int), Cond.methodLink RL 51 yX5_now, Cond.instanceMethod yX5_now, Cond.selects RX5 yX5_now yX5_now, Cond.code yX5_now cX5_now 2 (some .int), Cond.methodLink RX5 168 yX5_whoRegrets, Cond.instanceMethod yX5_whoRegrets, Cond.selects RX5 yX5_whoRegrets yX5_whoRegrets, Cond.code yX5_whoRegrets cX5_whoRegrets 3 (some .int), Cond.methodLink RX5 171 yX5_comePlaces, Cond.instanceMethod yX5_comePlaces, Cond.selects RX5 yX5_comePlaces yX5_comePlaces, Cond.code yX5_comePlaces cX5_comePlaces 3 (some .int), Cond.methodLink RX5 174 yX5_whoMoves]
def wsL_law_r17 : List Cond := [Cond.instanceMethod yX5_whoMoves, Cond.selects RX5 yX5_whoMoves yX5_whoMoves, Cond.code yX5_whoMoves cX5_whoMoves 3 (some .int), Cond.methodLink RX5 177 yX5_richest, Cond.instanceMethod yX5_richest, Cond.selects RX5 yX5_richest yX5_richest, Cond.code yX5_richest cX5_richest 3 (some .int), Cond.methodLink RL 52 yX4_ahead, Cond.instanceMethod yX4_ahead, Cond.selects RX4 yX4_ahead yX4_ahead, Cond.code yX4_ahead cX4_ahead 3 (some .int), Cond.fieldLink RX4 140 "TwoTuesdays$Town" "goodsOf" "[I", Cond.methodLink RX4 136 yX3_become, Cond.instanceMethod yX3_become, Cond.selects RX3 yX3_become yX3_become, Cond.code yX3_become cX3_become 2 none, Cond.methodLink RX3 58 arraycopyName, Cond.native arraycopyName, Cond.static arraycopyName, Cond.initialized "java/lang/System", Cond.methodLink RL 55 yX5_ahead, Cond.instanceMethod yX5_ahead, Cond.selects RX5 yX5_ahead yX5_ahead, Cond.code yX5_ahead cX5_ahead 3 (some .int)]
def wsL_law_r18 : List Cond := [Cond.methodLink RX5 183 yX5_isAhead, Cond.static yX5_isAhead, Cond.code yX5_isAhead cX5_isAhead 1 (some .boolean), Cond.methodLink RX5 186 yX5_behind, Cond.instanceMethod yX5_behind, Cond.selects RX5 yX5_behind yX5_behind, Cond.code yX5_behind cX5_behind 3 (some .int), Cond.methodLink RX5 71 yX5_copyRow, Cond.static yX5_copyRow, Cond.code yX5_copyRow cX5_copyRow 3 none, Cond.methodLink RX5 180 yX5_putBack, Cond.instanceMethod yX5_putBack, Cond.selects RX5 yX5_putBack yX5_putBack, Cond.code yX5_putBack cX5_putBack 2 (some .int), Cond.methodLink RL 56 yX4_plan, Cond.instanceMethod yX4_plan, Cond.selects RX4 yX4_plan yX4_plan, Cond.code yX4_plan cX4_plan 3 (some .int), Cond.fieldLink RX4 143 "TwoTuesdays$Town" "planOf" "[I", Cond.methodLink RL 59 yX5_plan, Cond.instanceMethod yX5_plan, Cond.selects RX5 yX5_plan yX5_plan, Cond.code yX5_plan cX5_plan 3 (some .int), Cond.methodLink RL 60 yX4_rests]
def wsL_law_r19 : List Cond := [Cond.instanceMethod yX4_rests, Cond.selects RX4 yX4_rests yX4_rests, Cond.code yX4_rests cX4_rests 2 (some .int), Cond.methodLink RL 64 yX5_rests, Cond.instanceMethod yX5_rests, Cond.selects RX5 yX5_rests yX5_rests, Cond.code yX5_rests cX5_rests 2 (some .int), Cond.methodLink RX5 189 yX5_orNone, Cond.instanceMethod yX5_orNone, Cond.selects RX5 yX5_orNone yX5_orNone, Cond.code yX5_orNone cX5_orNone 2 (some .int), Cond.methodLink RL 65 yX4_round, Cond.instanceMethod yX4_round, Cond.selects RX4 yX4_round yX4_round, Cond.code yX4_round cX4_round 2 (some .int), Cond.methodLink RX4 146 yX3_hasPlansOf, Cond.instanceMethod yX3_hasPlansOf, Cond.selects RX3 yX3_hasPlansOf yX3_hasPlansOf, Cond.code yX3_hasPlansOf cX3_hasPlansOf 3 (some .boolean), Cond.methodLink RL 68 yX5_round, Cond.instanceMethod yX5_round, Cond.selects RX5 yX5_round yX5_round, Cond.code yX5_round cX5_round 2 (some .int), Cond.methodLink RX5 192 yX5_arePlansAside]
def wsL_law_r20 : List Cond := [Cond.instanceMethod yX5_arePlansAside, Cond.selects RX5 yX5_arePlansAside yX5_arePlansAside, Cond.code yX5_arePlansAside cX5_arePlansAside 3 (some .boolean), Cond.methodLink RL 69 yX4_meet, Cond.instanceMethod yX4_meet, Cond.selects RX4 yX4_meet yX4_meet, Cond.code yX4_meet cX4_meet 4 (some .int), Cond.methodLink RL 72 yX5_meet, Cond.instanceMethod yX5_meet, Cond.selects RX5 yX5_meet yX5_meet, Cond.code yX5_meet cX5_meet 4 (some .int), Cond.methodLink RX5 196 yX5_doMeet, Cond.instanceMethod yX5_doMeet, Cond.selects RX5 yX5_doMeet yX5_doMeet, Cond.code yX5_doMeet cX5_doMeet 3 (some .boolean), Cond.methodLink RL 73 yX4_crowd, Cond.instanceMethod yX4_crowd, Cond.selects RX4 yX4_crowd yX4_crowd, Cond.code yX4_crowd cX4_crowd 7 (some .int), Cond.fieldLink RX4 150 "TwoTuesdays$Town" "chosenAt" "[I", Cond.methodLink RX4 153 Lib.Math.min.name, Cond.methodLink RX4 158 Lib.Math.max.name, Cond.methodLink RL 76 yX5_crowd, Cond.instanceMethod yX5_crowd]
def wsL_law_r21 : List Cond := [Cond.selects RX5 yX5_crowd yX5_crowd, Cond.code yX5_crowd cX5_crowd 8 (some .int), Cond.methodLink RX5 199 Lib.Math.max.name, Cond.methodLink RL 77 yX4_planFor, Cond.instanceMethod yX4_planFor, Cond.selects RX4 yX4_planFor yX4_planFor, Cond.code yX4_planFor cX4_planFor 3 (some .int), Cond.methodLink RX4 161 yX4_richestWith, Cond.instanceMethod yX4_richestWith, Cond.selects RX4 yX4_richestWith yX4_richestWith, Cond.code yX4_richestWith cX4_richestWith 7 (some .int), Cond.methodLink RL 80 yX5_planFor, Cond.instanceMethod yX5_planFor, Cond.selects RX5 yX5_planFor yX5_planFor, Cond.code yX5_planFor cX5_planFor 3 (some .int), Cond.methodLink RX5 202 yX5_isTried, Cond.instanceMethod yX5_isTried, Cond.selects RX5 yX5_isTried yX5_isTried, Cond.code yX5_isTried cX5_isTried 3 (some .boolean), Cond.methodLink RX5 205 yX5_bestFor, Cond.instanceMethod yX5_bestFor, Cond.selects RX5 yX5_bestFor yX5_bestFor, Cond.code yX5_bestFor cX5_bestFor 11 (some .int), Cond.methodLink RL 81 yX4_kindFor]
def wsL_law_r22 : List Cond := [Cond.instanceMethod yX4_kindFor, Cond.selects RX4 yX4_kindFor yX4_kindFor, Cond.code yX4_kindFor cX4_kindFor 3 (some .int), Cond.methodLink RL 84 yX5_kindFor, Cond.instanceMethod yX5_kindFor, Cond.selects RX5 yX5_kindFor yX5_kindFor, Cond.code yX5_kindFor cX5_kindFor 3 (some .int), Cond.methodLink RL 85 yX4_looksFor, Cond.instanceMethod yX4_looksFor, Cond.selects RX4 yX4_looksFor yX4_looksFor, Cond.code yX4_looksFor cX4_looksFor 3 (some .int), Cond.methodLink RL 88 yX5_looksFor, Cond.instanceMethod yX5_looksFor, Cond.selects RX5 yX5_looksFor yX5_looksFor, Cond.code yX5_looksFor cX5_looksFor 3 (some .int), Cond.methodLink RL 89 yX4_loveFor, Cond.instanceMethod yX4_loveFor, Cond.selects RX4 yX4_loveFor yX4_loveFor, Cond.code yX4_loveFor cX4_loveFor 3 (some .int), Cond.methodLink RL 92 yX5_loveFor, Cond.instanceMethod yX5_loveFor, Cond.selects RX5 yX5_loveFor yX5_loveFor, Cond.code yX5_loveFor cX5_loveFor 3 (some .int), Cond.methodLink RL 93 yX4_prizeFor]
def wsL_law_r23 : List Cond := [Cond.instanceMethod yX4_prizeFor, Cond.selects RX4 yX4_prizeFor yX4_prizeFor, Cond.code yX4_prizeFor cX4_prizeFor 4 (some .int), Cond.methodLink RL 96 yX5_prizeFor, Cond.instanceMethod yX5_prizeFor, Cond.selects RX5 yX5_prizeFor yX5_prizeFor, Cond.code yX5_prizeFor cX5_prizeFor 6 (some .int), Cond.methodLink RX5 209 yX5_manyNow, Cond.instanceMethod yX5_manyNow, Cond.selects RX5 yX5_manyNow yX5_manyNow, Cond.code yX5_manyNow cX5_manyNow 2 (some .int), Cond.methodLink RL 97 yX4_tell, Cond.instanceMethod yX4_tell, Cond.selects RX4 yX4_tell yX4_tell, Cond.code yX4_tell cX4_tell 6 (some .int), Cond.methodLink RX4 168 yJ6_bitCount_0f7a4, Cond.static yJ6_bitCount_0f7a4, Cond.initialized RJ6, Cond.code yJ6_bitCount_0f7a4 cJ6_bitCount_0f7a4 1 (some .int), Cond.constant RJ6 265 (1431655765), Cond.constant RJ6 266 (858993459), Cond.constant RJ6 267 (252645135), Cond.methodLink RX4 173 yX4_comersIfTold, Cond.instanceMethod yX4_comersIfTold]
def wsL_law_r24 : List Cond := [Cond.selects RX4 yX4_comersIfTold yX4_comersIfTold, Cond.code yX4_comersIfTold cX4_comersIfTold 4 (some .int), Cond.methodLink RL 100 yX5_tell, Cond.instanceMethod yX5_tell, Cond.selects RX5 yX5_tell yX5_tell, Cond.code yX5_tell cX5_tell 6 (some .int), Cond.methodLink RX5 215 yX5_manyIfTold, Cond.instanceMethod yX5_manyIfTold, Cond.selects RX5 yX5_manyIfTold yX5_manyIfTold, Cond.code yX5_manyIfTold cX5_manyIfTold 4 (some .int), Cond.methodLink RX5 212 yX5_has, Cond.static yX5_has, Cond.code yX5_has cX5_has 2 (some .boolean), Cond.methodLink RL 101 yX4_away, Cond.instanceMethod yX4_away, Cond.selects RX4 yX4_away yX4_away, Cond.code yX4_away cX4_away 5 (some .int), Cond.methodLink RL 104 yX5_away, Cond.instanceMethod yX5_away, Cond.selects RX5 yX5_away yX5_away, Cond.code yX5_away cX5_away 5 (some .int), Cond.methodLink RX5 218 yX5_goodsWithout, Cond.instanceMethod yX5_goodsWithout, Cond.selects RX5 yX5_goodsWithout yX5_goodsWithout]
def wsL_law_r25 : List Cond := [Cond.code yX5_goodsWithout cX5_goodsWithout 2 (some .int), Cond.methodLink RL 105 yX4_swapFor, Cond.instanceMethod yX4_swapFor, Cond.selects RX4 yX4_swapFor yX4_swapFor, Cond.code yX4_swapFor cX4_swapFor 7 (some .int), Cond.methodLink RX4 176 yX4_goodsIfSwapped, Cond.instanceMethod yX4_goodsIfSwapped, Cond.selects RX4 yX4_goodsIfSwapped yX4_goodsIfSwapped, Cond.code yX4_goodsIfSwapped cX4_goodsIfSwapped 4 (some .int), Cond.methodLink RL 108 yX5_swapFor, Cond.instanceMethod yX5_swapFor, Cond.selects RX5 yX5_swapFor yX5_swapFor, Cond.code yX5_swapFor cX5_swapFor 7 (some .int), Cond.methodLink RX5 221 yX5_goodsSwapped, Cond.instanceMethod yX5_goodsSwapped, Cond.selects RX5 yX5_goodsSwapped yX5_goodsSwapped, Cond.code yX5_goodsSwapped cX5_goodsSwapped 5 (some .int), Cond.methodLink RL 109 yX4_fits, Cond.instanceMethod yX4_fits, Cond.selects RX4 yX4_fits yX4_fits, Cond.code yX4_fits cX4_fits 3 (some .int), Cond.methodLink RX4 179 yX4_fittingTraits, Cond.instanceMethod yX4_fittingTraits, Cond.selects RX4 yX4_fittingTraits yX4_fittingTraits]
def wsL_law_r26 : List Cond := [Cond.code yX4_fittingTraits cX4_fittingTraits 6 (some .int), Cond.constant RX4 223 (-1000006), Cond.methodLink RX4 231 yX4_isSheet, Cond.static yX4_isSheet, Cond.code yX4_isSheet cX4_isSheet 1 (some .boolean), Cond.methodLink RX4 242 yX0_isMissing, Cond.instanceMethod yX0_isMissing, Cond.selects RX0 yX0_isMissing yX0_isMissing, Cond.code yX0_isMissing cX0_isMissing 1 (some .boolean), Cond.fieldLink RX0 15 "TwoTuesdays$Sheet" "bits" "I", Cond.methodLink RX4 266 yX4_fitsWith, Cond.instanceMethod yX4_fitsWith, Cond.selects RX4 yX4_fitsWith yX4_fitsWith, Cond.code yX4_fitsWith cX4_fitsWith 7 (some .boolean), Cond.fieldLink RX4 239 "TwoTuesdays$Sheet" "size" "I", Cond.fieldLink RX4 254 "TwoTuesdays$Sheet" "numbers" "[I", Cond.methodLink RL 112 yX5_fits, Cond.instanceMethod yX5_fits, Cond.selects RX5 yX5_fits yX5_fits, Cond.code yX5_fits cX5_fits 3 (some .int), Cond.methodLink RX5 231 yX5_lacks, Cond.instanceMethod yX5_lacks, Cond.selects RX5 yX5_lacks yX5_lacks, Cond.code yX5_lacks cX5_lacks 2 (some .int)]
def wsL_law_r27 : List Cond := [Cond.constant RX5 227 (-1000006), Cond.methodLink RX5 224 yX5_isSheet, Cond.static yX5_isSheet, Cond.code yX5_isSheet cX5_isSheet 1 (some .boolean), Cond.methodLink RX5 234 yX5_fitting, Cond.instanceMethod yX5_fitting, Cond.selects RX5 yX5_fitting yX5_fitting, Cond.code yX5_fitting cX5_fitting 8 (some .int), Cond.methodLink RX5 228 yX5_wentSo, Cond.instanceMethod yX5_wentSo, Cond.selects RX5 yX5_wentSo yX5_wentSo, Cond.code yX5_wentSo cX5_wentSo 6 (some .boolean), Cond.methodLink RL 113 yX4_kinds, Cond.instanceMethod yX4_kinds, Cond.selects RX4 yX4_kinds yX4_kinds, Cond.code yX4_kinds cX4_kinds 3 (some .int), Cond.methodLink RL 116 yX5_kinds, Cond.instanceMethod yX5_kinds, Cond.selects RX5 yX5_kinds yX5_kinds, Cond.code yX5_kinds cX5_kinds 3 (some .int), Cond.methodLink RL 117 yX4_weather, Cond.instanceMethod yX4_weather, Cond.selects RX4 yX4_weather yX4_weather, Cond.code yX4_weather cX4_weather 5 (some .int)]
def wsL_law_r28 : List Cond := [Cond.methodLink RX4 182 yX3_nextDraw, Cond.instanceMethod yX3_nextDraw, Cond.selects RX3 yX3_nextDraw yX3_nextDraw, Cond.code yX3_nextDraw cX3_nextDraw 1 (some .int), Cond.constant RX3 107 (1103515245), Cond.methodLink RL 120 yX5_weather, Cond.instanceMethod yX5_weather, Cond.selects RX5 yX5_weather yX5_weather, Cond.code yX5_weather cX5_weather 4 (some .int), Cond.methodLink RX5 238 yX5_drawn, Cond.instanceMethod yX5_drawn, Cond.selects RX5 yX5_drawn yX5_drawn, Cond.code yX5_drawn cX5_drawn 1 (some .int), Cond.constant RX5 237 (1103515245), Cond.methodLink RL 121 yX4_odds, Cond.instanceMethod yX4_odds, Cond.selects RX4 yX4_odds yX4_odds, Cond.code yX4_odds cX4_odds 6 (some .long), Cond.methodLink RX4 185 yX4_powerOf, Cond.static yX4_powerOf, Cond.code yX4_powerOf cX4_powerOf 5 (some .long), Cond.methodLink RL 125 yX5_odds, Cond.instanceMethod yX5_odds, Cond.selects RX5 yX5_odds yX5_odds]
def wsL_law_r29 : List Cond := [Cond.code yX5_odds cX5_odds 9 (some .long), Cond.methodLink RL 126 yX4_seed, Cond.instanceMethod yX4_seed, Cond.selects RX4 yX4_seed yX4_seed, Cond.code yX4_seed cX4_seed 3 (some .int), Cond.fieldLink RX4 189 "TwoTuesdays$Town" "z" "I", Cond.methodLink RL 129 yX5_seed, Cond.instanceMethod yX5_seed, Cond.selects RX5 yX5_seed yX5_seed, Cond.code yX5_seed cX5_seed 2 (some .int), Cond.methodLink RL 130 yX4_feed, Cond.instanceMethod yX4_feed, Cond.selects RX4 yX4_feed yX4_feed, Cond.code yX4_feed cX4_feed 4 (some .int), Cond.fieldLink RX4 192 "TwoTuesdays$TextReader" "tape" "LTwoTuesdays$Tape;", Cond.fieldLink RX4 196 "TwoTuesdays$Tape" "length" "I", Cond.methodLink RX4 201 yX1_append, Cond.instanceMethod yX1_append, Cond.selects RX1 yX1_append yX1_append, Cond.code yX1_append cX1_append 2 none, Cond.fieldLink RX1 15 "TwoTuesdays$Tape" "length" "I", Cond.methodLink RL 133 yX5_feed, Cond.instanceMethod yX5_feed, Cond.selects RX5 yX5_feed yX5_feed]
def wsL_law_r30 : List Cond := [Cond.code yX5_feed cX5_feed 4 (some .int), Cond.fieldLink RX5 241 "TwoTuesdaysModel" "taped" "I", Cond.methodLink RL 134 yX4_wipe, Cond.instanceMethod yX4_wipe, Cond.selects RX4 yX4_wipe yX4_wipe, Cond.code yX4_wipe cX4_wipe 2 (some .int), Cond.methodLink RL 137 yX5_wipe, Cond.instanceMethod yX5_wipe, Cond.selects RX5 yX5_wipe yX5_wipe, Cond.code yX5_wipe cX5_wipe 2 (some .int), Cond.methodLink RL 138 yX4_text, Cond.instanceMethod yX4_text, Cond.selects RX4 yX4_text yX4_text, Cond.code yX4_text cX4_text 2 (some .int), Cond.fieldLink RX4 204 "TwoTuesdays$TextReader" "draft" "LTwoTuesdays$Town;", Cond.fieldLink RX4 211 "TwoTuesdays$TextReader" "fault" "I", Cond.fieldLink RX4 214 "TwoTuesdays$TextReader" "items" "I", Cond.methodLink RX4 207 yX2_readItems, Cond.instanceMethod yX2_readItems, Cond.selects RX2 yX2_readItems yX2_readItems, Cond.code yX2_readItems cX2_readItems 1 (some .boolean), Cond.fieldLink RX2 25 "TwoTuesdays$TextReader" "items" "I", Cond.fieldLink RX2 39 "TwoTuesdays$Tape" "token" "I", Cond.methodLink RX2 29 yX1_rewind]
def wsL_law_r31 : List Cond := [Cond.instanceMethod yX1_rewind, Cond.selects RX1 yX1_rewind yX1_rewind, Cond.code yX1_rewind cX1_rewind 1 none, Cond.fieldLink RX1 19 "TwoTuesdays$Tape" "end" "I", Cond.methodLink RX1 22 yX1_step, Cond.instanceMethod yX1_step, Cond.selects RX1 yX1_step yX1_step, Cond.code yX1_step cX1_step 2 none, Cond.fieldLink RX1 25 "TwoTuesdays$Tape" "begin" "I", Cond.fieldLink RX1 28 "TwoTuesdays$Tape" "token" "I", Cond.methodLink RX1 31 yX1_skipWord, Cond.instanceMethod yX1_skipWord, Cond.selects RX1 yX1_skipWord yX1_skipWord, Cond.code yX1_skipWord cX1_skipWord 1 none, Cond.methodLink RX1 34 yX1_skipNumber, Cond.instanceMethod yX1_skipNumber, Cond.selects RX1 yX1_skipNumber yX1_skipNumber, Cond.code yX1_skipNumber cX1_skipNumber 1 none, Cond.fieldLink RX1 37 "TwoTuesdays$Tape" "value" "I", Cond.methodLink RX2 32 yX2_readItem, Cond.instanceMethod yX2_readItem, Cond.selects RX2 yX2_readItem yX2_readItem, Cond.code yX2_readItem cX2_readItem 3 (some .boolean), Cond.methodLink RX2 53 yX1_isWord]
def wsL_law_r32 : List Cond := [Cond.instanceMethod yX1_isWord, Cond.selects RX1 yX1_isWord yX1_isWord, Cond.code yX1_isWord cX1_isWord 3 (some .boolean), Cond.methodLink RX1 40 yJ0_length_8abf5, Cond.instanceMethod yJ0_length_8abf5, Cond.selects RJ0 yJ0_length_8abf5 yJ0_length_8abf5, Cond.initialized RJ0, Cond.code yJ0_length_8abf5 cJ0_length_8abf5 1 (some .int), Cond.fieldLink RJ0 9 "java/lang/String" "value" "[B", Cond.methodLink RJ0 335 yJ0_coder_7d493, Cond.instanceMethod yJ0_coder_7d493, Cond.selects RJ0 yJ0_coder_7d493 yJ0_coder_7d493, Cond.code yJ0_coder_7d493 cJ0_coder_7d493 1 (some .byte), Cond.fieldLink RJ0 38 "java/lang/String" "COMPACT_STRINGS" "Z", Cond.fieldLink RJ0 15 "java/lang/String" "coder" "B", Cond.methodLink RX1 45 yJ0_charAt_5068e, Cond.instanceMethod yJ0_charAt_5068e, Cond.selects RJ0 yJ0_charAt_5068e yJ0_charAt_5068e, Cond.code yJ0_charAt_5068e cJ0_charAt_5068e 2 (some .char), Cond.methodLink RJ0 492 yJ0_isLatin1_aae02, Cond.instanceMethod yJ0_isLatin1_aae02, Cond.selects RJ0 yJ0_isLatin1_aae02 yJ0_isLatin1_aae02, Cond.code yJ0_isLatin1_aae02 cJ0_isLatin1_aae02 1 (some .boolean), Cond.methodLink RJ0 495 yJ1_charAt_3b067]
def wsL_law_r33 : List Cond := [Cond.static yJ1_charAt_3b067, Cond.initialized RJ1, Cond.code yJ1_charAt_3b067 cJ1_charAt_3b067 2 (some .char), Cond.methodLink RJ1 9 yJ0_checkIndex_df160, Cond.static yJ0_checkIndex_df160, Cond.code yJ0_checkIndex_df160 cJ0_checkIndex_df160 2 none, Cond.fieldLink RJ0 1053 "jdk/internal/util/Preconditions" "SIOOBE_FORMATTER" "Ljava/util/function/BiFunction;", Cond.methodLink RJ0 1059 yJ3_checkIndex_8e157, Cond.static yJ3_checkIndex_8e157, Cond.initialized RJ3, Cond.code yJ3_checkIndex_8e157 cJ3_checkIndex_8e157 3 (some .int), Cond.methodLink RJ0 498 yJ2_charAt_3b067, Cond.static yJ2_charAt_3b067, Cond.initialized RJ2, Cond.code yJ2_charAt_3b067 cJ2_charAt_3b067 2 (some .char), Cond.methodLink RJ2 67 yJ2_checkIndex_2214a, Cond.static yJ2_checkIndex_2214a, Cond.code yJ2_checkIndex_2214a cJ2_checkIndex_2214a 2 none, Cond.methodLink RJ2 48 yJ2_length_9d52b, Cond.static yJ2_length_9d52b, Cond.code yJ2_length_9d52b cJ2_length_9d52b 1 (some .int), Cond.methodLink RJ2 414 yJ0_checkIndex_df160, Cond.methodLink RJ2 71 yJ2_getChar_3b067, Cond.static yJ2_getChar_3b067]
def wsL_law_r34 : List Cond := [Cond.code yJ2_getChar_3b067 cJ2_getChar_3b067 2 (some .char), Cond.fieldLink RJ2 44 "java/lang/StringUTF16" "$assertionsDisabled" "Z", Cond.fieldLink RJ2 59 "java/lang/StringUTF16" "HI_BYTE_SHIFT" "I", Cond.fieldLink RJ2 63 "java/lang/StringUTF16" "LO_BYTE_SHIFT" "I", Cond.methodLink RX2 42 yX1_step, Cond.methodLink RX2 57 yX2_readPrize, Cond.instanceMethod yX2_readPrize, Cond.selects RX2 yX2_readPrize yX2_readPrize, Cond.code yX2_readPrize cX2_readPrize 2 (some .boolean), Cond.fieldLink RX2 82 "TwoTuesdays$Tape" "value" "I", Cond.fieldLink RX2 85 "TwoTuesdays$Town" "prizeAt" "[I", Cond.methodLink RX2 79 yX2_isNumberHere, Cond.instanceMethod yX2_isNumberHere, Cond.selects RX2 yX2_isNumberHere yX2_isNumberHere, Cond.code yX2_isNumberHere cX2_isNumberHere 2 (some .boolean), Cond.methodLink RX2 60 yX2_kindHere, Cond.instanceMethod yX2_kindHere, Cond.selects RX2 yX2_kindHere yX2_kindHere, Cond.code yX2_kindHere cX2_kindHere 2 (some .int), Cond.methodLink RX2 75 yX2_nameOf, Cond.static yX2_nameOf, Cond.code yX2_nameOf cX2_nameOf 1 (some (.object "java/lang/String")), Cond.methodLink RX2 68 yX3_addOne, Cond.methodLink RX2 72 yX2_readTraits]
def wsL_law_r35 : List Cond := [Cond.instanceMethod yX2_readTraits, Cond.selects RX2 yX2_readTraits yX2_readTraits, Cond.code yX2_readTraits cX2_readTraits 2 (some .boolean), Cond.methodLink RX2 91 yX2_readTrait, Cond.instanceMethod yX2_readTrait, Cond.selects RX2 yX2_readTrait yX2_readTrait, Cond.code yX2_readTrait cX2_readTrait 5 (some .boolean), Cond.methodLink RX2 99 yX3_setTrait, Cond.methodLink RX2 36 yX2_failHere, Cond.instanceMethod yX2_failHere, Cond.selects RX2 yX2_failHere yX2_failHere, Cond.code yX2_failHere cX2_failHere 1 (some .boolean), Cond.fieldLink RX2 45 "TwoTuesdays$Tape" "begin" "I", Cond.fieldLink RX2 48 "TwoTuesdays$TextReader" "fault" "I", Cond.methodLink RL 141 yX5_text, Cond.instanceMethod yX5_text, Cond.selects RX5 yX5_text yX5_text, Cond.code yX5_text cX5_text 3 (some .int), Cond.fieldLink RX5 244 "TwoTuesdaysModel" "ends" "I", Cond.fieldLink RX5 266 "TwoTuesdaysModel" "isWrong" "Z", Cond.fieldLink RX5 277 "TwoTuesdaysModel" "itemMany" "I", Cond.fieldLink RX5 290 "TwoTuesdaysModel" "personThen" "I", Cond.fieldLink RX5 256 "TwoTuesdaysModel" "sort" "I", Cond.fieldLink RX5 247 "TwoTuesdaysModel" "begins" "I"]
def wsL_law_r36 : List Cond := [Cond.methodLink RX5 270 yX5_next, Cond.instanceMethod yX5_next, Cond.selects RX5 yX5_next yX5_next, Cond.code yX5_next cX5_next 2 none, Cond.fieldLink RX5 253 "TwoTuesdaysModel" "value" "I", Cond.methodLink RX5 250 yX5_byteAt, Cond.instanceMethod yX5_byteAt, Cond.selects RX5 yX5_byteAt yX5_byteAt, Cond.code yX5_byteAt cX5_byteAt 2 (some .int), Cond.methodLink RX5 308 yX5_readItem, Cond.instanceMethod yX5_readItem, Cond.selects RX5 yX5_readItem yX5_readItem, Cond.code yX5_readItem cX5_readItem 4 none, Cond.methodLink RX5 287 yX5_kindTold, Cond.instanceMethod yX5_kindTold, Cond.selects RX5 yX5_kindTold yX5_kindTold, Cond.code yX5_kindTold cX5_kindTold 3 (some .int), Cond.methodLink RX5 280 yX5_isWord, Cond.instanceMethod yX5_isWord, Cond.selects RX5 yX5_isWord yX5_isWord, Cond.code yX5_isWord cX5_isWord 4 (some .boolean), Cond.methodLink RX5 259 yJ0_length_8abf5, Cond.methodLink RX5 262 yJ0_charAt_5068e, Cond.methodLink RX5 273 yX5_must]
def wsL_law_r37 : List Cond := [Cond.instanceMethod yX5_must, Cond.selects RX5 yX5_must yX5_must, Cond.code yX5_must cX5_must 2 none, Cond.methodLink RX5 294 yX5_afterWord, Cond.instanceMethod yX5_afterWord, Cond.selects RX5 yX5_afterWord yX5_afterWord, Cond.code yX5_afterWord cX5_afterWord 4 (some .int), Cond.methodLink RX5 284 yX5_number, Cond.instanceMethod yX5_number, Cond.selects RX5 yX5_number yX5_number, Cond.code yX5_number cX5_number 4 (some .int), Cond.methodLink RX5 302 yX5_addItem, Cond.instanceMethod yX5_addItem, Cond.selects RX5 yX5_addItem yX5_addItem, Cond.code yX5_addItem cX5_addItem 6 none, Cond.methodLink RX5 311 yX5_isToldSo, Cond.instanceMethod yX5_isToldSo, Cond.selects RX5 yX5_isToldSo yX5_isToldSo, Cond.code yX5_isToldSo cX5_isToldSo 4 (some .int), Cond.methodLink RL 142 yX4_hold, Cond.instanceMethod yX4_hold, Cond.selects RX4 yX4_hold yX4_hold, Cond.code yX4_hold cX4_hold 3 (some .int), Cond.fieldLink RX4 220 "TwoTuesdays$Town" "heldAt" "[I"]
def wsL_law_r38 : List Cond := [Cond.methodLink RX4 217 yX4_isSpot, Cond.static yX4_isSpot, Cond.code yX4_isSpot cX4_isSpot 1 (some .boolean), Cond.methodLink RL 145 yX5_hold, Cond.instanceMethod yX5_hold, Cond.selects RX5 yX5_hold yX5_hold, Cond.code yX5_hold cX5_hold 3 (some .int), Cond.methodLink RX5 314 yX5_isSpot, Cond.static yX5_isSpot, Cond.code yX5_isSpot cX5_isSpot 1 (some .boolean), Cond.methodLink RL 146 yX4_as, Cond.instanceMethod yX4_as, Cond.selects RX4 yX4_as yX4_as, Cond.code yX4_as cX4_as 4 (some .int), Cond.fieldLink RX4 224 "TwoTuesdays$Town" "kindOf" "[I", Cond.constant RX4 230 (-1000003), Cond.methodLink RX4 227 yX4_isUnder, Cond.static yX4_isUnder, Cond.code yX4_isUnder cX4_isUnder 4 (some .boolean), Cond.fieldLink RX4 270 "TwoTuesdays" "KIND_ABOVE" "[I", Cond.methodLink RL 149 yX5_as, Cond.instanceMethod yX5_as, Cond.selects RX5 yX5_as yX5_as, Cond.code yX5_as cX5_as 4 (some .int)]
def wsL_law_r39 : List Cond := [Cond.constant RX5 320 (-1000003), Cond.methodLink RX5 317 yX5_isUnder, Cond.static yX5_isUnder, Cond.code yX5_isUnder cX5_isUnder 3 (some .boolean), Cond.methodLink RX5 325 yX5_above, Cond.static yX5_above, Cond.code yX5_above cX5_above 1 (some .int), Cond.methodLink RL 150 yX4_sheet, Cond.instanceMethod yX4_sheet, Cond.selects RX4 yX4_sheet yX4_sheet, Cond.code yX4_sheet cX4_sheet 4 (some .int), Cond.constant RX4 234 (-1000007), Cond.methodLink RX4 235 yX0_begin, Cond.instanceMethod yX0_begin, Cond.selects RX0 yX0_begin yX0_begin, Cond.code yX0_begin cX0_begin 3 none, Cond.fieldLink RX0 19 "TwoTuesdays$Sheet" "size" "I", Cond.methodLink RX0 22 yJ7_fill_53178, Cond.methodLink RL 153 yX5_sheet, Cond.instanceMethod yX5_sheet, Cond.selects RX5 yX5_sheet yX5_sheet, Cond.code yX5_sheet cX5_sheet 5 (some .int), Cond.constant RX5 321 (-1000007), Cond.methodLink RL 154 yX4_write]
def wsL_law_r40 : List Cond := [Cond.instanceMethod yX4_write, Cond.selects RX4 yX4_write yX4_write, Cond.code yX4_write cX4_write 4 (some .int), Cond.methodLink RX4 245 yX0_hasNumbers, Cond.instanceMethod yX0_hasNumbers, Cond.selects RX0 yX0_hasNumbers yX0_hasNumbers, Cond.code yX0_hasNumbers cX0_hasNumbers 3 (some .boolean), Cond.methodLink RX4 248 yX0_put, Cond.instanceMethod yX0_put, Cond.selects RX0 yX0_put yX0_put, Cond.code yX0_put cX0_put 3 none, Cond.methodLink RL 157 yX5_write, Cond.instanceMethod yX5_write, Cond.selects RX5 yX5_write yX5_write, Cond.code yX5_write cX5_write 4 (some .int), Cond.methodLink RX5 322 yX5_cutTo, Cond.static yX5_cutTo, Cond.code yX5_cutTo cX5_cutTo 2 (some .int), Cond.methodLink RL 158 yX4_copy, Cond.instanceMethod yX4_copy, Cond.selects RX4 yX4_copy yX4_copy, Cond.code yX4_copy cX4_copy 8 (some .int), Cond.fieldLink RX4 251 "TwoTuesdays$Sheet" "bits" "I", Cond.methodLink RX4 257 arraycopyName]
def wsL_law_r41 : List Cond := [Cond.methodLink RL 162 yX5_copy, Cond.instanceMethod yX5_copy, Cond.selects RX5 yX5_copy yX5_copy, Cond.code yX5_copy cX5_copy 7 (some .int), Cond.methodLink RL 163 yX4_load, Cond.instanceMethod yX4_load, Cond.selects RX4 yX4_load yX4_load, Cond.code yX4_load cX4_load 4 (some .int), Cond.methodLink RL 166 yX5_load, Cond.instanceMethod yX5_load, Cond.selects RX5 yX5_load yX5_load, Cond.code yX5_load cX5_load 3 (some .int), Cond.methodLink RL 167 yX4_judge, Cond.instanceMethod yX4_judge, Cond.selects RX4 yX4_judge yX4_judge, Cond.code yX4_judge cX4_judge 4 (some .int), Cond.methodLink RL 170 yX5_judge, Cond.instanceMethod yX5_judge, Cond.selects RX5 yX5_judge yX5_judge, Cond.code yX5_judge cX5_judge 3 (some .int), Cond.methodLink RL 171 yX4_image, Cond.instanceMethod yX4_image, Cond.selects RX4 yX4_image yX4_image, Cond.code yX4_image cX4_image 1 (some .int)]
def wsL_law_r42 : List Cond := [Cond.methodLink RL 174 yX5_image, Cond.instanceMethod yX5_image, Cond.selects RX5 yX5_image yX5_image, Cond.code yX5_image cX5_image 1 (some .int), Cond.fieldLink RX5 328 "TwoTuesdaysModel" "isKept" "Z", Cond.methodLink RL 175 yX4_undo, Cond.instanceMethod yX4_undo, Cond.selects RX4 yX4_undo yX4_undo, Cond.code yX4_undo cX4_undo 1 (some .int), Cond.methodLink RL 178 yX5_undo, Cond.instanceMethod yX5_undo, Cond.selects RX5 yX5_undo yX5_undo, Cond.code yX5_undo cX5_undo 1 (some .int), Cond.methodLink RL 179 yX4_tear, Cond.instanceMethod yX4_tear, Cond.selects RX4 yX4_tear yX4_tear, Cond.code yX4_tear cX4_tear 2 (some .int), Cond.methodLink RL 182 yX5_tear, Cond.instanceMethod yX5_tear, Cond.selects RX5 yX5_tear yX5_tear, Cond.code yX5_tear cX5_tear 2 (some .int), Cond.methodLink RL 183 yX4_count, Cond.instanceMethod yX4_count, Cond.selects RX4 yX4_count yX4_count]
def wsL_law_r43 : List Cond := [Cond.code yX4_count cX4_count 2 (some .int), Cond.methodLink RX4 263 yX3_fullSpots, Cond.instanceMethod yX3_fullSpots, Cond.selects RX3 yX3_fullSpots yX3_fullSpots, Cond.code yX3_fullSpots cX3_fullSpots 3 (some .int), Cond.methodLink RL 186 yX5_count, Cond.instanceMethod yX5_count, Cond.selects RX5 yX5_count yX5_count, Cond.code yX5_count cX5_count 4 (some .int), Cond.methodLink RL 187 yX4_status, Cond.instanceMethod yX4_status, Cond.selects RX4 yX4_status yX4_status, Cond.code yX4_status cX4_status 4 (some .int), Cond.methodLink RL 190 yX5_status, Cond.instanceMethod yX5_status, Cond.selects RX5 yX5_status yX5_status, Cond.code yX5_status cX5_status 2 (some .int)]
def wsL_law : List Cond := (wsL_law_r1 ++ (wsL_law_r2 ++ (wsL_law_r3 ++ (wsL_law_r4 ++ (wsL_law_r5 ++ (wsL_law_r6 ++ (wsL_law_r7 ++ (wsL_law_r8 ++ (wsL_law_r9 ++ (wsL_law_r10 ++ (wsL_law_r11 ++ (wsL_law_r12 ++ (wsL_law_r13 ++ (wsL_law_r14 ++ (wsL_law_r15 ++ (wsL_law_r16 ++ (wsL_law_r17 ++ (wsL_law_r18 ++ (wsL_law_r19 ++ (wsL_law_r20 ++ (wsL_law_r21 ++ (wsL_law_r22 ++ (wsL_law_r23 ++ (wsL_law_r24 ++ (wsL_law_r25 ++ (wsL_law_r26 ++ (wsL_law_r27 ++ (wsL_law_r28 ++ (wsL_law_r29 ++ (wsL_law_r30 ++ (wsL_law_r31 ++ (wsL_law_r32 ++ (wsL_law_r33 ++ (wsL_law_r34 ++ (wsL_law_r35 ++ (wsL_law_r36 ++ (wsL_law_r37 ++ (wsL_law_r38 ++ (wsL_law_r39 ++ (wsL_law_r40 ++ (wsL_law_r41 ++ (wsL_law_r42 ++ wsL_law_r43)))))))))))))))))))))))))))))))))))))))))) ++ wsX40 ++ wsX50 ++ wsX30 ++ wsX20 ++ wsX00 ++ wsX10 ++ ([] : List Cond)
abbrev vwCl : List vw_C := [(RX0, TX0, 3), (RX1, TX1, 6), (RX2, TX2, 4), (RX3, TX3, 13), (RX4, TX4, 7), (RX5, TX5, 23)]
end
section
/-! ===== my own rows over the kit's: worlds of one shape, contracts whose end is a function of the start ===== -/
theorem tt_hin {i n : Nat} (hi : i < n) (hn : n < 2 ^ 31) : vp_in (nI i) n := vp_in_nI hi hn
section TTa
variable {p : Program} {l : Launch} {e : Env} {R : Room} {s : State} {m : MethodId} {args : Array Value} {below : List Frame} {meth : Method} {c : Code} {H : Heap} {locs : List Loc} {cells slots : Nat} {Q : State → Prop}
variable {cc : ByteArray} {pc : Nat} {ls : Array Slot} {rest : List Value} {D : va_G} {cl : List vw_C} {tys : List (ClassId × FieldType)} {ws : va_W} {A : Nat → Prop} {H0 : Heap} {a : Nat}
theorem tt_topi {x y : Int32} (h : x = y) (k : W p l e R s m args below meth c H locs cells slots Q (F0 m pc ls (.int y :: rest))) : W p l e R s m args below meth c H locs cells slots Q (F0 m pc ls (.int x :: rest)) := h ▸ k
theorem tt_topl {x y : Int64} (h : x = y) (k : W p l e R s m args below meth c H locs cells slots Q (F0 m pc ls (.long y :: rest))) : W p l e R s m args below meth c H locs cells slots Q (F0 m pc ls (.long x :: rest)) := h ▸ k
theorem tt_stk {st st' : List Value} (h : st = st') (k : W p l e R s m args below meth c H locs cells slots Q (F0 m pc ls st')) : W p l e R s m args below meth c H locs cells slots Q (F0 m pc ls st) := h ▸ k
theorem tt_iald {f : Nat → Int32} (q0 t0 : Nat) {i : Nat} (hx : p.tables.exec = Jvm.exec) (hb : c.code = cc) (hK : va_K D cl tys s) (hP : va_P D cl ws H) {cA : ClassId} {n : Nat} (ha : ws[q0]? = some (a, .inl (cA, n, .inl f))) (ht : tys[t0]? = some (cA, .int)) (hi : i < n) (hn : n < 2 ^ 31) (hdg : decode cc pc = .ok (.iaload, 1))
    (kk : W p l e R s m args below meth c H locs cells slots Q (F0 m (pc + 1) ls (.int (f i) :: rest))) : W p l e R s m args below meth c H locs cells slots Q (F0 m pc ls (.int (nI i) :: .ref a :: rest)) := by
  refine va_iald hx hb hK hP q0 t0 ha ht (tt_hin hi hn) hdg ?_
  rw [nI_clamp (Nat.lt_trans hi hn)]
  exact kk
theorem tt_iast {f : Nat → Int32} (q0 t0 : Nat) (ws' : va_W) {i : Nat} {x : Int32} (hx : p.tables.exec = Jvm.exec) (hb : c.code = cc) (hK : va_K D cl tys s) (hP : va_P D cl ws H) (hD : va_D A ws) (hS : va_S A H0 H locs) {cA : ClassId} {n : Nat} (ha : ws[q0]? = some (a, .inl (cA, n, .inl f))) (ht : tys[t0]? = some (cA, .int)) (hi : i < n) (hn : n < 2 ^ 31) (hw : ws.set q0 (a, .inl (cA, n, .inl (upd f i x))) = ws') (hdg : decode cc pc = .ok (.iastore, 1))
    (kk : ∀ (H1 : Heap) (locs1 : List Loc), va_P D cl ws' H1 → va_D A ws' → va_S A H0 H1 locs1 → W p l e R s m args below meth c H1 locs1 cells slots Q (F0 m (pc + 1) ls rest)) : W p l e R s m args below meth c H locs cells slots Q (F0 m pc ls (.int x :: .int (nI i) :: .ref a :: rest)) := by
  refine va_iast hx hb hK hP hD hS q0 t0 ha ht (tt_hin hi hn) hdg (fun H1 locs1 h1 h2 h3 => ?_)
  rw [nI_clamp (Nat.lt_trans hi hn), hw] at h1 h2
  exact kk H1 locs1 h1 h2 h3
/-- branches over small numbers -/
theorem tt_ge {x y : Nat} {off : Int} {tgt : Nat} (hx : p.tables.exec = Jvm.exec) (hb : c.code = cc) (hdg : decode cc pc = .ok (.if_icmp .ge off, 3)) (ht : (pc : Int) + off = (tgt : Int)) (h1 : x < 2 ^ 31) (h2 : y < 2 ^ 31)
    (kt : y ≤ x → W p l e R s m args below meth c H locs cells slots Q (F0 m tgt ls rest)) (kf : x < y → W p l e R s m args below meth c H locs cells slots Q (F0 m (pc + 3) ls rest)) : W p l e R s m args below meth c H locs cells slots Q (F0 m pc ls (.int (nI y) :: .int (nI x) :: rest)) :=
  lv_icmp_ge hx hb hdg ht (fun h => kt ((nI_leI h2 h1).mp h)) (fun h => kf (Nat.not_le.mp fun q => h ((nI_leI h2 h1).mpr q)))
theorem tt_gt {x y : Nat} {off : Int} {tgt : Nat} (hx : p.tables.exec = Jvm.exec) (hb : c.code = cc) (hdg : decode cc pc = .ok (.if_icmp .gt off, 3)) (ht : (pc : Int) + off = (tgt : Int)) (h1 : x < 2 ^ 31) (h2 : y < 2 ^ 31)
    (kt : y < x → W p l e R s m args below meth c H locs cells slots Q (F0 m tgt ls rest)) (kf : x ≤ y → W p l e R s m args below meth c H locs cells slots Q (F0 m (pc + 3) ls rest)) : W p l e R s m args below meth c H locs cells slots Q (F0 m pc ls (.int (nI y) :: .int (nI x) :: rest)) :=
  lv_icmp_gt hx hb hdg ht (fun h => kt ((nI_ltI h2 h1).mp h)) (fun h => kf (Nat.not_lt.mp fun q => h ((nI_ltI h2 h1).mpr q)))
theorem tt_lt {x y : Nat} {off : Int} {tgt : Nat} (hx : p.tables.exec = Jvm.exec) (hb : c.code = cc) (hdg : decode cc pc = .ok (.if_icmp .lt off, 3)) (ht : (pc : Int) + off = (tgt : Int)) (h1 : x < 2 ^ 31) (h2 : y < 2 ^ 31)
    (kt : x < y → W p l e R s m args below meth c H locs cells slots Q (F0 m tgt ls rest)) (kf : y ≤ x → W p l e R s m args below meth c H locs cells slots Q (F0 m (pc + 3) ls rest)) : W p l e R s m args below meth c H locs cells slots Q (F0 m pc ls (.int (nI y) :: .int (nI x) :: rest)) :=
  lv_icmp_lt hx hb hdg ht (fun h => kt ((nI_ltI h1 h2).mp h)) (fun h => kf (Nat.not_lt.mp fun q => h ((nI_ltI h1 h2).mpr q)))
theorem tt_le {x y : Nat} {off : Int} {tgt : Nat} (hx : p.tables.exec = Jvm.exec) (hb : c.code = cc) (hdg : decode cc pc = .ok (.if_icmp .le off, 3)) (ht : (pc : Int) + off = (tgt : Int)) (h1 : x < 2 ^ 31) (h2 : y < 2 ^ 31)
    (kt : x ≤ y → W p l e R s m args below meth c H locs cells slots Q (F0 m tgt ls rest)) (kf : y < x → W p l e R s m args below meth c H locs cells slots Q (F0 m (pc + 3) ls rest)) : W p l e R s m args below meth c H locs cells slots Q (F0 m pc ls (.int (nI y) :: .int (nI x) :: rest)) :=
  lv_icmp_le hx hb hdg ht (fun h => kt ((nI_leI h1 h2).mp h)) (fun h => kf (Nat.not_le.mp fun q => h ((nI_leI h1 h2).mpr q)))
theorem tt_eq {x y : Nat} {off : Int} {tgt : Nat} (hx : p.tables.exec = Jvm.exec) (hb : c.code = cc) (hdg : decode cc pc = .ok (.if_icmp .eq off, 3)) (ht : (pc : Int) + off = (tgt : Int)) (h1 : x < 2 ^ 31) (h2 : y < 2 ^ 31)
    (kt : x = y → W p l e R s m args below meth c H locs cells slots Q (F0 m tgt ls rest)) (kf : ¬ x = y → W p l e R s m args below meth c H locs cells slots Q (F0 m (pc + 3) ls rest)) : W p l e R s m args below meth c H locs cells slots Q (F0 m pc ls (.int (nI y) :: .int (nI x) :: rest)) :=
  lv_icmp_eq hx hb hdg ht (fun h => kt ((nI_eq h1 h2).mp h)) (fun h => kf fun q => h ((nI_eq h1 h2).mpr q))
theorem tt_ne {x y : Nat} {off : Int} {tgt : Nat} (hx : p.tables.exec = Jvm.exec) (hb : c.code = cc) (hdg : decode cc pc = .ok (.if_icmp .ne off, 3)) (ht : (pc : Int) + off = (tgt : Int)) (h1 : x < 2 ^ 31) (h2 : y < 2 ^ 31)
    (kt : ¬ x = y → W p l e R s m args below meth c H locs cells slots Q (F0 m tgt ls rest)) (kf : x = y → W p l e R s m args below meth c H locs cells slots Q (F0 m (pc + 3) ls rest)) : W p l e R s m args below meth c H locs cells slots Q (F0 m pc ls (.int (nI y) :: .int (nI x) :: rest)) :=
  lv_icmp_ne hx hb hdg ht (fun h => kt fun q => h ((nI_eq h1 h2).mpr q)) (fun h => kf ((nI_eq h1 h2).mp h))
/-- branches over what a question answered -/
theorem tt_bne {B : Prop} [Decidable B] {off : Int} {tgt : Nat} (hx : p.tables.exec = Jvm.exec) (hb : c.code = cc) (hdg : decode cc pc = .ok (.ifCond .ne off, 3)) (ht : (pc : Int) + off = (tgt : Int))
    (kt : B → W p l e R s m args below meth c H locs cells slots Q (F0 m tgt ls rest)) (kf : ¬ B → W p l e R s m args below meth c H locs cells slots Q (F0 m (pc + 3) ls rest)) : W p l e R s m args below meth c H locs cells slots Q (F0 m pc ls (.int (if B then 1 else 0) :: rest)) := by
  by_cases h : B
  · rw [if_pos h]; exact lv_if_ne hx hb hdg ht (fun _ => kt h) (fun q => absurd q (by decide))
  · rw [if_neg h]; exact lv_if_ne hx hb hdg ht (fun q => absurd rfl q) (fun _ => kf h)
theorem tt_beq {B : Prop} [Decidable B] {off : Int} {tgt : Nat} (hx : p.tables.exec = Jvm.exec) (hb : c.code = cc) (hdg : decode cc pc = .ok (.ifCond .eq off, 3)) (ht : (pc : Int) + off = (tgt : Int))
    (kt : ¬ B → W p l e R s m args below meth c H locs cells slots Q (F0 m tgt ls rest)) (kf : B → W p l e R s m args below meth c H locs cells slots Q (F0 m (pc + 3) ls rest)) : W p l e R s m args below meth c H locs cells slots Q (F0 m pc ls (.int (if B then 1 else 0) :: rest)) := by
  by_cases h : B
  · rw [if_pos h]; exact lv_if_eq hx hb hdg ht (fun q => absurd q (by decide)) (fun _ => kf h)
  · rw [if_neg h]; exact lv_if_eq hx hb hdg ht (fun _ => kt h) (fun q => absurd rfl q)
end TTa
end
section
/-! ===== what stays as it was at the start: links among nest mates, constants, texts ===== -/
def tt_len : List Nat := [6, 7, 5, 7, 5, 3, 7, 5, 2, 5, 5]
def tt_byt : List (List Int32) := [[112, 101, 114, 115, 111, 110], [103, 97, 109, 98, 108, 101, 114], [108, 111, 118, 101, 114], [106, 101, 97, 108, 111, 117, 115], [116, 104, 105, 101, 102], [99, 97, 116], [115, 108, 101, 101, 112, 101, 114], [112, 114, 105, 122, 101], [97, 116], [108, 111, 111, 107, 115], [108, 111, 118, 101, 115]]
def tt_refs : List (String × Nat × String × Nat) := [(RX2, 103, "person", 0), (RX2, 105, "gambler", 1), (RX2, 107, "lover", 2), (RX2, 109, "jealous", 3), (RX2, 111, "thief", 4), (RX2, 113, "cat", 5), (RX2, 115, "sleeper", 6), (RX2, 51, "prize", 7), (RX2, 89, "at", 8), (RX2, 95, "looks", 9), (RX2, 97, "loves", 10), (RX5, 37, "person", 0), (RX5, 39, "gambler", 1), (RX5, 41, "lover", 2), (RX5, 43, "jealous", 3), (RX5, 45, "thief", 4), (RX5, 47, "cat", 5), (RX5, 49, "sleeper", 6), (RX5, 306, "prize", 7), (RX5, 293, "at", 8), (RX5, 298, "looks", 9), (RX5, 300, "loves", 10)]
def tt_above : Nat → Int32 := fun k => ([-1, 0, 0, 2, 3, 0, 1] : List Int32).getD k 0
def tt_nests : List (String × Nat × MethodName) := [(RX4, 24, yX2_init), (RX4, 35, yX0_init), (RX2, 11, yX1_init), (RX2, 64, yX4_isKind), (RX3, 101, yX4_shareOf), (RX3, 64, yX4_isKind), (RX3, 68, yX4_isPlace), (RX3, 71, yX4_isWithin)]
def tt_N (U : State) : Prop := ∀ q ∈ tt_nests, va_Nw (.methodLinkNest q.1 q.2.1 q.2.2 RX4) U
def tt_R (ad : Nat → Nat) (U : State) : Prop := ∀ q ∈ tt_refs, vk_R q.1 q.2.1 q.2.2.1 (ad q.2.2.2) U
def tt_Z (ad : Nat → Nat) (A : Nat → Prop) (U : State) (H : Heap) : Prop := (va_Z RX4 "KIND_ABOVE" "[I" (.ref (ad 200)) A U H ∧ va_T .int (ad 200) 7 (fun k => .int (tt_above k)) A U H) ∧ va_Z "java/lang/String" "COMPACT_STRINGS" "Z" (.int 1) A U H ∧ va_Zq "jdk/internal/util/Preconditions" "SIOOBE_FORMATTER" "Ljava/util/function/BiFunction;" A U H ∧ vk_S 11 tt_len tt_byt ad (fun i => ad (100 + i)) A U H
def tt_E (ad : Nat → Nat) (A : Nat → Prop) (U : State) (H : Heap) : Prop := tt_N U ∧ tt_R ad U ∧ tt_Z ad A U H
theorem tt_Z.moved {ad : Nat → Nat} {A : Nat → Prop} {u U : State} {H : Heap} (hvm : u.vm.Alike U.vm) (h : tt_Z ad A u H) : tt_Z ad A U H := ⟨⟨va_Z.moved hvm h.1.1, va_T.moved hvm h.1.2⟩, va_Z.moved hvm h.2.1, va_Zq.moved hvm h.2.2.1, vk_S.moved hvm h.2.2.2⟩
theorem tt_Z.kept {ad : Nat → Nat} {A : Nat → Prop} {U : State} {H H1 : Heap} (h : tt_Z ad A U H) (hq : ∀ a : Nat, a < H.size → ¬ A a → H1[a]? = H[a]?) : tt_Z ad A U H1 := ⟨⟨h.1.1.kept hq, h.1.2.kept hq⟩, h.2.1.kept hq, h.2.2.1.kept hq, h.2.2.2.kept hq⟩
theorem tt_Z.narrow {ad : Nat → Nat} {A B : Nat → Prop} {U : State} {H : Heap} (h : tt_Z ad A U H) (hAB : ∀ q, B q → A q) : tt_Z ad B U H := ⟨⟨h.1.1.narrow hAB, h.1.2.narrow hAB⟩, h.2.1.narrow hAB, h.2.2.1.narrow hAB, h.2.2.2.narrow hAB⟩
theorem tt_E.warm {ad : Nat → Nat} {A : Nat → Prop} {s U : State} {H : Heap} (hW : s.WarmedH U.vm) (h : tt_E ad A s H) : tt_E ad A U H := ⟨fun q hq => va_Nw.warmM hW (h.1 q hq), fun q hq => vk_R.warm hW (h.2.1 q hq), tt_Z.moved hW.alike h.2.2⟩
theorem tt_E.same {ad : Nat → Nat} {A : Nat → Prop} {u U : State} {H : Heap} (hv : U.vm = u.vm) (h : tt_E ad A u H) : tt_E ad A U H := ⟨fun q hq => va_Nw.same rfl hv.symm (h.1 q hq), fun q hq => vk_R.same hv (h.2.1 q hq), tt_Z.moved (by rw [hv]; exact Vm.Alike.refl u.vm) h.2.2⟩
theorem tt_E.kept {ad : Nat → Nat} {A : Nat → Prop} {U : State} {H0 H : Heap} {locs : List Loc} (h : tt_E ad A U H0) (hS : va_S A H0 H locs) : tt_E ad A U H := ⟨h.1, h.2.1, h.2.2.kept hS.2.1⟩
theorem tt_E.narrow {ad : Nat → Nat} {A B : Nat → Prop} {U : State} {H : Heap} (h : tt_E ad A U H) (hAB : ∀ q, B q → A q) : tt_E ad B U H := ⟨h.1, h.2.1, h.2.2.narrow hAB⟩
end
section
/-! ===== the code of every method, as blocks of resolved instructions: printed by program out of TURN's names ===== -/
def am_shl : List (List Nat) := [[1, 4, 2, 13, 24, 46, 49, 58, 0], [1, 3, 3, 4, 5, 6, 7, 8, 9, 0, 0, 0, 10, 11, 12], [0, 8], [0, 8], [0, 8], [0, 8], [0, 8], [0, 8], [0, 10], [0, 8], [0, 8], [0, 8], [1, 3, 14, 15, 16, 17, 18, 19, 20, 0, 0, 0, 21, 22, 23], [0, 8], [0, 8], [0, 8], [0, 8], [0, 8], [0, 8], [0, 10], [0, 8], [0, 8], [0, 8], [1, 3, 25, 26, 27, 28, 29, 30, 31, 0, 0, 0, 32, 33, 34], [0, 8], [0, 8], [0, 8], [0, 8], [0, 8], [0, 8], [0, 10], [0, 8], [0, 8], [0, 8], [1, 3, 36, 37, 38, 39, 40, 41, 42, 0, 0, 0, 43, 44, 45], [0, 8], [0, 8], [0, 8], [0, 8], [0, 8], [0, 8], [0, 10], [0, 8], [0, 8], [0, 8], [1, 2, 47, 35, 0, 0], [1, 1, 48, 0, 0, 0, 0, 0], [0, 120], [2, 0, 49, 51, 53, 55], [1, 0, 51, 0, 0], [0, 40], [1, 0, 53, 0, 0], [0, 40], [1, 0, 55, 0, 0], [0, 40], [1, 0, 57, 0, 0], [0, 40], [0, 7], [1, 5, 60, 61, 62, 0, 63, 64, 65, 0, 66, 0, 0, 0, 0, 0, 0, 72, 67, 0, 0, 68, 69, 70, 71], [0, 61], [0, 61], [0, 61], [0, 8], [0, 8], [0, 8], [0, 120], [0, 480], [0, 4], [0, 4], [0, 160], [0, 40], [2, 1, 100, 101, 102, 103, 104, 105, 106]]
noncomputable def am_B0_0 : List Instr := [.ldc 0, .istore 2, .aload 0, .arraylength, .istore 3, .goto_w 5]
noncomputable def am_B0_5 : List Instr := [.iload 2, .iload 3, .if_icmp .ge 20, .aload 0, .iload 2, .iload 1, .iastore, .iinc 2 1, .goto 5]
noncomputable def am_B0_20 : List Instr := [.return_]
noncomputable def am_t0 : List (Nat × List Instr) := [(0, am_B0_0), (5, am_B0_5), (20, am_B0_20)]
noncomputable def am_B1_0 : List Instr := [.iload 0, .iload 0, .ldc 1, .iushr, .ldc 1431655765, .iand, .isub, .istore 0, .iload 0, .ldc 858993459, .iand, .iload 0, .ldc 2, .iushr, .ldc 858993459, .iand, .iadd, .istore 0, .iload 0, .iload 0, .ldc 4, .iushr, .iadd, .ldc 252645135, .iand, .istore 0, .iload 0, .iload 0, .ldc 8, .iushr, .iadd, .istore 0, .iload 0, .iload 0, .ldc 16, .iushr, .iadd, .istore 0, .iload 0, .ldc 63, .iand, .ret 0]
noncomputable def am_t1 : List (Nat × List Instr) := [(0, am_B1_0)]
noncomputable def am_B2_0 : List Instr := [.aload 0, .getfield 1000, .arraylength, .aload 0, .invokeinterface 3 1, .ishr, .ret 0]
noncomputable def am_t2 : List (Nat × List Instr) := [(0, am_B2_0)]
noncomputable def am_B3_0 : List Instr := [.getstatic 1, .ifCond .eq 13, .aload 0, .getfield 1001, .goto 14]
noncomputable def am_B3_13 : List Instr := [.ldc 1, .goto_w 14]
noncomputable def am_B3_14 : List Instr := [.ret 2]
noncomputable def am_t3 : List (Nat × List Instr) := [(0, am_B3_0), (13, am_B3_13), (14, am_B3_14)]
noncomputable def am_B4_0 : List Instr := [.aload 0, .invokeinterface 5 1, .ifCond .eq 16, .aload 0, .getfield 1000, .iload 1, .invokeinterface 6 2, .ret 3]
noncomputable def am_t4 : List (Nat × List Instr) := [(0, am_B4_0)]
noncomputable def am_B5_0 : List Instr := [.getstatic 1, .ifCond .eq 17, .aload 0, .getfield 1001, .ifCond .ne 17, .ldc 1, .goto 18]
noncomputable def am_B5_17 : List Instr := [.ldc 0, .goto_w 18]
noncomputable def am_B5_18 : List Instr := [.ret 1]
noncomputable def am_t5 : List (Nat × List Instr) := [(0, am_B5_0), (17, am_B5_17), (18, am_B5_18)]
noncomputable def am_B6_0 : List Instr := [.iload 1, .aload 0, .arraylength, .invokeinterface 7 2, .aload 0, .iload 1, .baload, .ldc 255, .iand, .i2c, .ret 3]
noncomputable def am_t6 : List (Nat × List Instr) := [(0, am_B6_0)]
noncomputable def am_B7_0 : List Instr := [.iload 0, .iload 1, .getstatic 2, .invokeinterface 8 3, .pop, .return_]
noncomputable def am_t7 : List (Nat × List Instr) := [(0, am_B7_0)]
noncomputable def am_B8_0 : List Instr := [.iload 0, .ifCond .lt 9, .iload 0, .iload 1, .if_icmp .lt 16, .goto_w 9]
noncomputable def am_B8_16 : List Instr := [.iload 0, .ret 0]
noncomputable def am_t8 : List (Nat × List Instr) := [(0, am_B8_0), (16, am_B8_16)]
noncomputable def am_B9_0 : List Instr := [.iload 1, .invokeinterface 10 1, .ifCond .eq 18, .iload 2, .ldc 0, .ldc 9999, .invokeinterface 11 3, .ifCond .ne 25, .goto_w 18]
noncomputable def am_B9_18 : List Instr := [.aload 0, .sipush (-1000001), .invokeinterface 12 2, .ret 0]
noncomputable def am_B9_25 : List Instr := [.aload 0, .getfield 128, .getfield 96, .iload 1, .iaload, .istore 3, .aload 0, .getfield 128, .getfield 96, .iload 1, .iload 2, .iastore, .iload 3, .ret 0]
noncomputable def am_t9 : List (Nat × List Instr) := [(0, am_B9_0), (18, am_B9_18), (25, am_B9_25)]
noncomputable def am_B10_0 : List Instr := [.iload 0, .ifCond .lt 14, .iload 0, .ldc 8, .if_icmp .ge 14, .ldc 1, .goto 15]
noncomputable def am_B10_14 : List Instr := [.ldc 0, .goto_w 15]
noncomputable def am_B10_15 : List Instr := [.ret 1]
noncomputable def am_t10 : List (Nat × List Instr) := [(0, am_B10_0), (14, am_B10_14), (15, am_B10_15)]
noncomputable def am_B11_0 : List Instr := [.iload 0, .iload 1, .if_icmp .lt 14, .iload 0, .iload 2, .if_icmp .gt 14, .ldc 1, .goto 15]
noncomputable def am_B11_14 : List Instr := [.ldc 0, .goto_w 15]
noncomputable def am_B11_15 : List Instr := [.ret 1]
noncomputable def am_t11 : List (Nat × List Instr) := [(0, am_B11_0), (14, am_B11_14), (15, am_B11_15)]
noncomputable def am_B12_0 : List Instr := [.sipush (-1000001), .iload 1, .isub, .istore 2, .iload 2, .ldc 0, .ldc 6, .invokeinterface 11 3, .ifCond .eq 25, .aload 0, .getfield 133, .iload 2, .dup2, .iaload, .ldc 1, .iadd, .iastore, .goto_w 25]
noncomputable def am_B12_25 : List Instr := [.iload 1, .ret 0]
noncomputable def am_t12 : List (Nat × List Instr) := [(0, am_B12_0), (25, am_B12_25)]
noncomputable def am_B13_0 : List Instr := [.iload 1, .invokeinterface 14 1, .ifCond .eq 26, .iload 2, .invokeinterface 16 1, .ifCond .eq 26, .aload 0, .ldc 13, .iload 1, .iadd, .iload 2, .invokeinterface 17 3, .goto 32]
noncomputable def am_B13_26 : List Instr := [.aload 0, .sipush (-1000001), .invokeinterface 18 2, .goto_w 32]
noncomputable def am_B13_32 : List Instr := [.ret 0]
noncomputable def am_t13 : List (Nat × List Instr) := [(0, am_B13_0), (26, am_B13_26), (32, am_B13_32)]
noncomputable def am_B14_0 : List Instr := [.iload 0, .ldc 0, .ldc 7, .invokeinterface 15 3, .ret 1]
noncomputable def am_t14 : List (Nat × List Instr) := [(0, am_B14_0)]
noncomputable def am_B15_0 : List Instr := [.iload 0, .iload 1, .if_icmp .lt 14, .iload 0, .iload 2, .if_icmp .gt 14, .ldc 1, .goto 15]
noncomputable def am_B15_14 : List Instr := [.ldc 0, .goto_w 15]
noncomputable def am_B15_15 : List Instr := [.ret 1]
noncomputable def am_t15 : List (Nat × List Instr) := [(0, am_B15_0), (14, am_B15_14), (15, am_B15_15)]
noncomputable def am_B16_0 : List Instr := [.iload 0, .ldc 0, .ldc 9999, .invokeinterface 15 3, .ret 1]
noncomputable def am_t16 : List (Nat × List Instr) := [(0, am_B16_0)]
noncomputable def am_B17_0 : List Instr := [.aload 0, .getfield 160, .iload 1, .iaload, .istore 3, .aload 0, .getfield 160, .iload 1, .iload 2, .iastore, .iload 3, .ret 0]
noncomputable def am_t17 : List (Nat × List Instr) := [(0, am_B17_0)]
noncomputable def am_B18_0 : List Instr := [.aload 0, .getfield 164, .sipush (-1000001), .iload 1, .isub, .ldc 1, .iadd, .dup2, .iaload, .ldc 1, .iadd, .iastore, .aload 0, .getfield 164, .ldc 0, .dup2, .iaload, .ldc 1, .iadd, .iastore, .iload 1, .ret 0]
noncomputable def am_t18 : List (Nat × List Instr) := [(0, am_B18_0)]
noncomputable def am_B19_0 : List Instr := [.iload 1, .invokeinterface 10 1, .ifCond .eq 16, .iload 2, .ldc 0, .ldc 2, .invokeinterface 11 3, .ifCond .ne 23, .goto_w 16]
noncomputable def am_B19_16 : List Instr := [.aload 0, .sipush (-1000001), .invokeinterface 12 2, .ret 0]
noncomputable def am_B19_23 : List Instr := [.iload 2, .ifCond .ne 37, .aload 0, .getfield 128, .getfield 96, .iload 1, .iaload, .ret 0]
noncomputable def am_B19_37 : List Instr := [.aload 0, .getfield 128, .invokeinterface 20 1, .iload 2, .ldc 1, .if_icmp .ne 60, .aload 0, .getfield 128, .iload 1, .invokeinterface 23 2, .goto 68]
noncomputable def am_B19_60 : List Instr := [.aload 0, .getfield 128, .iload 1, .invokeinterface 24 2, .goto_w 68]
noncomputable def am_B19_68 : List Instr := [.ret 0]
noncomputable def am_t19 : List (Nat × List Instr) := [(0, am_B19_0), (16, am_B19_16), (23, am_B19_23), (37, am_B19_37), (60, am_B19_60), (68, am_B19_68)]
noncomputable def am_B20_0 : List Instr := [.aload 0, .getfield 106, .ldc 0, .invokeinterface 0 2, .aload 0, .getfield 108, .ldc 0, .invokeinterface 0 2, .ldc 0, .istore 1, .goto_w 18]
noncomputable def am_B20_18 : List Instr := [.iload 1, .aload 0, .getfield 103, .if_icmp .ge 59, .aload 0, .getfield 98, .iload 1, .iaload, .invokeinterface 10 1, .ifCond .eq 53, .aload 0, .getfield 106, .aload 0, .getfield 98, .iload 1, .iaload, .dup2, .iaload, .ldc 1, .iadd, .iastore, .goto_w 53]
noncomputable def am_B20_53 : List Instr := [.iinc 1 1, .goto 18]
noncomputable def am_B20_59 : List Instr := [.ldc 0, .istore 1, .goto_w 61]
noncomputable def am_B20_61 : List Instr := [.iload 1, .aload 0, .getfield 103, .if_icmp .ge 105, .aload 0, .iload 1, .invokeinterface 21 2, .istore 2, .aload 0, .getfield 107, .iload 1, .iload 2, .iastore, .iload 2, .invokeinterface 10 1, .ifCond .eq 99, .aload 0, .getfield 108, .iload 2, .dup2, .iaload, .ldc 1, .iadd, .iastore, .goto_w 99]
noncomputable def am_B20_99 : List Instr := [.iinc 1 1, .goto 61]
noncomputable def am_B20_105 : List Instr := [.return_]
noncomputable def am_t20 : List (Nat × List Instr) := [(0, am_B20_0), (18, am_B20_18), (53, am_B20_53), (59, am_B20_59), (61, am_B20_61), (99, am_B20_99), (105, am_B20_105)]
noncomputable def am_B21_0 : List Instr := [.aload 0, .getfield 98, .iload 1, .iaload, .istore 2, .iload 2, .invokeinterface 10 1, .ifCond .ne 16, .sipush (-1), .ret 0]
noncomputable def am_B21_16 : List Instr := [.iload 2, .istore 3, .aload 0, .iload 1, .iload 2, .invokeinterface 22 3, .istore 4, .ldc 7, .iload 2, .aload 0, .getfield 99, .iload 1, .iaload, .iadd, .invokeinterface 996 2, .istore 5, .ldc 0, .iload 2, .aload 0, .getfield 99, .iload 1, .iaload, .isub, .invokeinterface 997 2, .istore 6, .goto_w 55]
noncomputable def am_B21_55 : List Instr := [.iload 6, .iload 5, .if_icmp .gt 91, .aload 0, .iload 1, .iload 6, .invokeinterface 22 3, .istore 7, .iload 7, .iload 4, .if_icmp .le 85, .iload 6, .istore 3, .iload 7, .istore 4, .goto_w 85]
noncomputable def am_B21_85 : List Instr := [.iinc 6 1, .goto 55]
noncomputable def am_B21_91 : List Instr := [.iload 3, .ret 0]
noncomputable def am_t21 : List (Nat × List Instr) := [(0, am_B21_0), (16, am_B21_16), (55, am_B21_55), (85, am_B21_85), (91, am_B21_91)]
noncomputable def am_B22_0 : List Instr := [.aload 0, .getfield 98, .iload 1, .iaload, .iload 2, .if_icmp .ne 14, .ldc 1, .goto 15]
noncomputable def am_B22_14 : List Instr := [.ldc 0, .goto_w 15]
noncomputable def am_B22_15 : List Instr := [.istore 3, .aload 0, .getfield 106, .iload 2, .iaload, .iload 3, .ifCond .eq 30, .ldc 1, .goto 31]
noncomputable def am_B22_30 : List Instr := [.ldc 0, .goto_w 31]
noncomputable def am_B22_31 : List Instr := [.isub, .istore 4, .iload 4, .ifCond .lt 53, .aload 0, .getfield 96, .iload 2, .iaload, .iload 4, .ldc 1, .iadd, .idiv, .goto 54]
noncomputable def am_B22_53 : List Instr := [.ldc 0, .goto_w 54]
noncomputable def am_B22_54 : List Instr := [.istore 5, .iload 4, .ifCond .ne 70, .aload 0, .getfield 96, .iload 2, .iaload, .goto 71]
noncomputable def am_B22_70 : List Instr := [.ldc 0, .goto_w 71]
noncomputable def am_B22_71 : List Instr := [.istore 6, .aload 0, .getfield 100, .iload 1, .iaload, .istore 7, .iload 7, .ifCond .lt 111, .iload 7, .aload 0, .getfield 103, .if_icmp .ge 111, .aload 0, .getfield 98, .iload 7, .iaload, .iload 2, .if_icmp .ne 111, .ldc 100, .goto 112]
noncomputable def am_B22_111 : List Instr := [.ldc 0, .goto_w 112]
noncomputable def am_B22_112 : List Instr := [.istore 8, .aload 0, .getfield 97, .iload 1, .iaload, .tableswitch 218 1 6 #[160, 163, 169, 180, 197, 207]]
noncomputable def am_B22_160 : List Instr := [.iload 6, .ret 0]
noncomputable def am_B22_163 : List Instr := [.iload 5, .iload 8, .iadd, .ret 0]
noncomputable def am_B22_169 : List Instr := [.iload 5, .iload 8, .iadd, .ldc 5, .iload 4, .imul, .isub, .ret 0]
noncomputable def am_B22_180 : List Instr := [.iload 5, .iload 8, .iadd, .ldc 5, .iload 4, .imul, .isub, .ldc 7, .iload 4, .imul, .iadd, .ret 0]
noncomputable def am_B22_197 : List Instr := [.iload 3, .ifCond .eq 205, .ldc 1, .goto 206]
noncomputable def am_B22_205 : List Instr := [.ldc 0, .goto_w 206]
noncomputable def am_B22_206 : List Instr := [.ret 0]
noncomputable def am_B22_207 : List Instr := [.iload 3, .ifCond .eq 216, .iload 6, .goto 217]
noncomputable def am_B22_216 : List Instr := [.ldc 0, .goto_w 217]
noncomputable def am_B22_217 : List Instr := [.ret 0]
noncomputable def am_B22_218 : List Instr := [.iload 5, .ret 0]
noncomputable def am_t22 : List (Nat × List Instr) := [(0, am_B22_0), (14, am_B22_14), (15, am_B22_15), (30, am_B22_30), (31, am_B22_31), (53, am_B22_53), (54, am_B22_54), (70, am_B22_70), (71, am_B22_71), (111, am_B22_111), (112, am_B22_112), (160, am_B22_160), (163, am_B22_163), (169, am_B22_169), (180, am_B22_180), (197, am_B22_197), (205, am_B22_205), (206, am_B22_206), (207, am_B22_207), (216, am_B22_216), (217, am_B22_217), (218, am_B22_218)]
noncomputable def am_B23_0 : List Instr := [.ldc 0, .istore 2, .ldc 0, .istore 3, .goto_w 4]
noncomputable def am_B23_4 : List Instr := [.iload 3, .aload 0, .getfield 103, .if_icmp .ge 38, .iload 2, .aload 0, .getfield 98, .iload 3, .iaload, .iload 1, .if_icmp .ne 29, .ldc 1, .iload 3, .ishl, .goto 30]
noncomputable def am_B23_29 : List Instr := [.ldc 0, .goto_w 30]
noncomputable def am_B23_30 : List Instr := [.ior, .istore 2, .iinc 3 1, .goto 4]
noncomputable def am_B23_38 : List Instr := [.iload 2, .ret 0]
noncomputable def am_t23 : List (Nat × List Instr) := [(0, am_B23_0), (4, am_B23_4), (29, am_B23_29), (30, am_B23_30), (38, am_B23_38)]
noncomputable def am_B24_0 : List Instr := [.ldc 0, .istore 2, .ldc 0, .istore 3, .goto_w 4]
noncomputable def am_B24_4 : List Instr := [.iload 3, .aload 0, .getfield 103, .if_icmp .ge 38, .iload 2, .aload 0, .getfield 107, .iload 3, .iaload, .iload 1, .if_icmp .ne 29, .ldc 1, .iload 3, .ishl, .goto 30]
noncomputable def am_B24_29 : List Instr := [.ldc 0, .goto_w 30]
noncomputable def am_B24_30 : List Instr := [.ior, .istore 2, .iinc 3 1, .goto 4]
noncomputable def am_B24_38 : List Instr := [.iload 2, .ret 0]
noncomputable def am_t24 : List (Nat × List Instr) := [(0, am_B24_0), (4, am_B24_4), (29, am_B24_29), (30, am_B24_30), (38, am_B24_38)]
noncomputable def am_B25_0 : List Instr := [.iload 1, .invokeinterface 14 1, .ifCond .eq 16, .iload 2, .ldc 0, .ldc 2, .invokeinterface 15 3, .ifCond .ne 23, .goto_w 16]
noncomputable def am_B25_16 : List Instr := [.aload 0, .sipush (-1000001), .invokeinterface 18 2, .ret 0]
noncomputable def am_B25_23 : List Instr := [.aload 0, .invokeinterface 26 1, .iload 2, .ifCond .ne 43, .aload 0, .getfield 160, .ldc 13, .iload 1, .iadd, .iaload, .goto 61]
noncomputable def am_B25_43 : List Instr := [.iload 2, .ldc 1, .if_icmp .ne 56, .aload 0, .iload 1, .invokeinterface 32 2, .goto 61]
noncomputable def am_B25_56 : List Instr := [.aload 0, .iload 1, .invokeinterface 36 2, .goto_w 61]
noncomputable def am_B25_61 : List Instr := [.ret 0]
noncomputable def am_t25 : List (Nat × List Instr) := [(0, am_B25_0), (16, am_B25_16), (23, am_B25_23), (43, am_B25_43), (56, am_B25_56), (61, am_B25_61)]
noncomputable def am_B26_0 : List Instr := [.ldc 0, .istore 1, .goto_w 2]
noncomputable def am_B26_2 : List Instr := [.iload 1, .aload 0, .getfield 160, .ldc 1, .iaload, .if_icmp .ge 41, .aload 0, .getfield 165, .iload 1, .iload 1, .aload 0, .getfield 167, .if_icmp .ne 29, .sipush (-1), .goto 34]
noncomputable def am_B26_29 : List Instr := [.aload 0, .iload 1, .invokeinterface 27 2, .goto_w 34]
noncomputable def am_B26_34 : List Instr := [.iastore, .iinc 1 1, .goto 2]
noncomputable def am_B26_41 : List Instr := [.ldc 0, .istore 1, .goto_w 43]
noncomputable def am_B26_43 : List Instr := [.iload 1, .aload 0, .getfield 160, .ldc 1, .iaload, .if_icmp .ge 105, .aload 0, .getfield 166, .iload 1, .iload 1, .aload 0, .getfield 167, .if_icmp .ne 70, .ldc 0, .goto 98]
noncomputable def am_B26_70 : List Instr := [.aload 0, .getfield 160, .ldc 13, .aload 0, .getfield 165, .iload 1, .iaload, .iadd, .iaload, .aload 0, .aload 0, .getfield 165, .iload 1, .iaload, .invokeinterface 36 2, .invokeinterface 33 1, .idiv, .goto_w 98]
noncomputable def am_B26_98 : List Instr := [.iastore, .iinc 1 1, .goto 43]
noncomputable def am_B26_105 : List Instr := [.return_]
noncomputable def am_t26 : List (Nat × List Instr) := [(0, am_B26_0), (2, am_B26_2), (29, am_B26_29), (34, am_B26_34), (41, am_B26_41), (43, am_B26_43), (70, am_B26_70), (98, am_B26_98), (105, am_B26_105)]
noncomputable def am_B27_0 : List Instr := [.aload 0, .iload 1, .ldc 1, .invokeinterface 28 3, .istore 2, .aload 0, .iload 1, .iload 2, .invokeinterface 30 3, .istore 3, .ldc 0, .istore 4, .goto_w 17]
noncomputable def am_B27_17 : List Instr := [.iload 4, .ldc 8, .if_icmp .ge 62, .aload 0, .iload 1, .iload 4, .invokeinterface 35 3, .ifCond .eq 56, .aload 0, .iload 1, .iload 4, .invokeinterface 30 3, .iload 3, .if_icmp .le 56, .iload 4, .istore 2, .aload 0, .iload 1, .iload 4, .invokeinterface 30 3, .istore 3, .goto_w 56]
noncomputable def am_B27_56 : List Instr := [.iinc 4 1, .goto 17]
noncomputable def am_B27_62 : List Instr := [.iload 2, .ret 0]
noncomputable def am_t27 : List (Nat × List Instr) := [(0, am_B27_0), (17, am_B27_17), (56, am_B27_56), (62, am_B27_62)]
noncomputable def am_B28_0 : List Instr := [.aload 0, .getfield 160, .iload 1, .iload 2, .invokeinterface 29 2, .iaload, .ret 0]
noncomputable def am_t28 : List (Nat × List Instr) := [(0, am_B28_0)]
noncomputable def am_B29_0 : List Instr := [.ldc 21, .ldc 5, .iload 0, .imul, .iadd, .iload 1, .iadd, .ret 0]
noncomputable def am_t29 : List (Nat × List Instr) := [(0, am_B29_0)]
noncomputable def am_B30_0 : List Instr := [.aload 0, .iload 1, .iload 2, .invokeinterface 31 3, .istore 3, .aload 0, .iload 1, .ldc 1, .invokeinterface 28 3, .iload 2, .if_icmp .ne 21, .ldc 1, .goto 22]
noncomputable def am_B30_21 : List Instr := [.ldc 0, .goto_w 22]
noncomputable def am_B30_22 : List Instr := [.istore 4, .aload 0, .iload 1, .ldc 0, .invokeinterface 28 3, .tableswitch 152 1 6 #[68, 86, 94, 106, 118, 129]]
noncomputable def am_B30_68 : List Instr := [.iload 3, .ifCond .ne 84, .aload 0, .getfield 160, .ldc 13, .iload 2, .iadd, .iaload, .goto 85]
noncomputable def am_B30_84 : List Instr := [.ldc 0, .goto_w 85]
noncomputable def am_B30_85 : List Instr := [.ret 0]
noncomputable def am_B30_86 : List Instr := [.aload 0, .iload 1, .iload 2, .iload 3, .invokeinterface 34 4, .ret 0]
noncomputable def am_B30_94 : List Instr := [.aload 0, .iload 1, .iload 2, .iload 3, .invokeinterface 34 4, .ldc 5, .iload 3, .imul, .isub, .ret 0]
noncomputable def am_B30_106 : List Instr := [.aload 0, .iload 1, .iload 2, .iload 3, .invokeinterface 34 4, .ldc 2, .iload 3, .imul, .iadd, .ret 0]
noncomputable def am_B30_118 : List Instr := [.iload 4, .ifCond .eq 127, .ldc 1, .goto 128]
noncomputable def am_B30_127 : List Instr := [.ldc 0, .goto_w 128]
noncomputable def am_B30_128 : List Instr := [.ret 0]
noncomputable def am_B30_129 : List Instr := [.iload 4, .ifCond .eq 150, .iload 3, .ifCond .ne 150, .aload 0, .getfield 160, .ldc 13, .iload 2, .iadd, .iaload, .goto 151]
noncomputable def am_B30_150 : List Instr := [.ldc 0, .goto_w 151]
noncomputable def am_B30_151 : List Instr := [.ret 0]
noncomputable def am_B30_152 : List Instr := [.aload 0, .getfield 160, .ldc 13, .iload 2, .iadd, .iaload, .ldc 1, .iload 3, .iadd, .idiv, .ret 0]
noncomputable def am_t30 : List (Nat × List Instr) := [(0, am_B30_0), (21, am_B30_21), (22, am_B30_22), (68, am_B30_68), (84, am_B30_84), (85, am_B30_85), (86, am_B30_86), (94, am_B30_94), (106, am_B30_106), (118, am_B30_118), (127, am_B30_127), (128, am_B30_128), (129, am_B30_129), (150, am_B30_150), (151, am_B30_151), (152, am_B30_152)]
noncomputable def am_B31_0 : List Instr := [.aload 0, .iload 2, .invokeinterface 32 2, .ldc 1, .iload 1, .ishl, .sipush (-1), .ixor, .iand, .invokeinterface 33 1, .ret 0]
noncomputable def am_t31 : List (Nat × List Instr) := [(0, am_B31_0)]
noncomputable def am_B32_0 : List Instr := [.ldc 0, .istore 2, .ldc 0, .istore 3, .goto_w 4]
noncomputable def am_B32_4 : List Instr := [.iload 3, .aload 0, .getfield 160, .ldc 1, .iaload, .if_icmp .ge 48, .iload 2, .iload 3, .aload 0, .getfield 167, .if_icmp .eq 39, .aload 0, .iload 3, .ldc 1, .invokeinterface 28 3, .iload 1, .if_icmp .ne 39, .ldc 1, .iload 3, .ishl, .goto 40]
noncomputable def am_B32_39 : List Instr := [.ldc 0, .goto_w 40]
noncomputable def am_B32_40 : List Instr := [.ior, .istore 2, .iinc 3 1, .goto 4]
noncomputable def am_B32_48 : List Instr := [.iload 2, .ret 0]
noncomputable def am_t32 : List (Nat × List Instr) := [(0, am_B32_0), (4, am_B32_4), (39, am_B32_39), (40, am_B32_40), (48, am_B32_48)]
noncomputable def am_B33_0 : List Instr := [.ldc 0, .istore 1, .iload 0, .istore 2, .goto_w 4]
noncomputable def am_B33_4 : List Instr := [.iload 2, .ifCond .eq 20, .iinc 1 1, .iload 2, .iload 2, .ldc 1, .isub, .iand, .istore 2, .goto 4]
noncomputable def am_B33_20 : List Instr := [.iload 1, .ret 0]
noncomputable def am_t33 : List (Nat × List Instr) := [(0, am_B33_0), (4, am_B33_4), (20, am_B33_20)]
noncomputable def am_B34_0 : List Instr := [.aload 0, .iload 1, .ldc 3, .invokeinterface 28 3, .istore 4, .iload 4, .ifCond .lt 37, .iload 4, .aload 0, .getfield 167, .if_icmp .eq 37, .aload 0, .iload 4, .ldc 1, .invokeinterface 28 3, .iload 2, .if_icmp .ne 37, .ldc 1, .goto 38]
noncomputable def am_B34_37 : List Instr := [.ldc 0, .goto_w 38]
noncomputable def am_B34_38 : List Instr := [.istore 5, .aload 0, .getfield 160, .ldc 13, .iload 2, .iadd, .iaload, .ldc 1, .iload 3, .iadd, .idiv, .iload 5, .ifCond .eq 63, .ldc 100, .goto 64]
noncomputable def am_B34_63 : List Instr := [.ldc 0, .goto_w 64]
noncomputable def am_B34_64 : List Instr := [.iadd, .ret 0]
noncomputable def am_t34 : List (Nat × List Instr) := [(0, am_B34_0), (37, am_B34_37), (38, am_B34_38), (63, am_B34_63), (64, am_B34_64)]
noncomputable def am_B35_0 : List Instr := [.iload 2, .aload 0, .iload 1, .ldc 1, .invokeinterface 28 3, .isub, .invokeinterface 998 1, .aload 0, .iload 1, .ldc 2, .invokeinterface 28 3, .if_icmp .gt 24, .ldc 1, .goto 25]
noncomputable def am_B35_24 : List Instr := [.ldc 0, .goto_w 25]
noncomputable def am_B35_25 : List Instr := [.ret 1]
noncomputable def am_t35 : List (Nat × List Instr) := [(0, am_B35_0), (24, am_B35_24), (25, am_B35_25)]
noncomputable def am_B36_0 : List Instr := [.ldc 0, .istore 2, .ldc 0, .istore 3, .goto_w 4]
noncomputable def am_B36_4 : List Instr := [.iload 3, .aload 0, .getfield 160, .ldc 1, .iaload, .if_icmp .ge 40, .iload 2, .aload 0, .getfield 165, .iload 3, .iaload, .iload 1, .if_icmp .ne 31, .ldc 1, .iload 3, .ishl, .goto 32]
noncomputable def am_B36_31 : List Instr := [.ldc 0, .goto_w 32]
noncomputable def am_B36_32 : List Instr := [.ior, .istore 2, .iinc 3 1, .goto 4]
noncomputable def am_B36_40 : List Instr := [.iload 2, .ret 0]
noncomputable def am_t36 : List (Nat × List Instr) := [(0, am_B36_0), (4, am_B36_4), (31, am_B36_31), (32, am_B36_32), (40, am_B36_40)]
noncomputable def am_B37_0 : List Instr := [.iload 1, .invokeinterface 38 1, .ifCond .eq 14, .iload 2, .invokeinterface 10 1, .ifCond .ne 21, .goto_w 14]
noncomputable def am_B37_14 : List Instr := [.aload 0, .sipush (-1000001), .invokeinterface 12 2, .ret 0]
noncomputable def am_B37_21 : List Instr := [.aload 0, .getfield 128, .iload 1, .iload 2, .invokeinterface 39 3, .istore 3, .iload 3, .sipush (-1), .if_icmp .ne 45, .aload 0, .sipush (-1000002), .invokeinterface 12 2, .goto 46]
noncomputable def am_B37_45 : List Instr := [.iload 3, .goto_w 46]
noncomputable def am_B37_46 : List Instr := [.ret 0]
noncomputable def am_t37 : List (Nat × List Instr) := [(0, am_B37_0), (14, am_B37_14), (21, am_B37_21), (45, am_B37_45), (46, am_B37_46)]
noncomputable def am_B38_0 : List Instr := [.iload 0, .ldc 0, .ldc 6, .invokeinterface 11 3, .ret 1]
noncomputable def am_t38 : List (Nat × List Instr) := [(0, am_B38_0)]
noncomputable def am_B39_0 : List Instr := [.aload 0, .getfield 103, .istore 3, .iload 3, .ldc 8, .if_icmp .lt 13, .sipush (-1), .ret 0]
noncomputable def am_B39_13 : List Instr := [.aload 0, .getfield 97, .iload 3, .iload 1, .iastore, .aload 0, .getfield 98, .iload 3, .iload 2, .iastore, .aload 0, .getfield 99, .iload 3, .ldc 1, .iastore, .aload 0, .getfield 100, .iload 3, .sipush (-1), .iastore, .aload 0, .getfield 101, .iload 3, .ldc 0, .iastore, .aload 0, .iload 3, .ldc 1, .iadd, .putfield 103, .iload 3, .ret 0]
noncomputable def am_t39 : List (Nat × List Instr) := [(0, am_B39_0), (13, am_B39_13)]
noncomputable def am_B40_0 : List Instr := [.iload 1, .invokeinterface 41 1, .ifCond .eq 14, .iload 2, .invokeinterface 14 1, .ifCond .ne 21, .goto_w 14]
noncomputable def am_B40_14 : List Instr := [.aload 0, .sipush (-1000001), .invokeinterface 18 2, .ret 0]
noncomputable def am_B40_21 : List Instr := [.aload 0, .getfield 160, .ldc 1, .iaload, .ldc 8, .if_icmp .ne 41, .aload 0, .sipush (-1000002), .invokeinterface 18 2, .goto 49]
noncomputable def am_B40_41 : List Instr := [.aload 0, .iload 1, .iload 2, .ldc 1, .sipush (-1), .invokeinterface 42 5, .goto_w 49]
noncomputable def am_B40_49 : List Instr := [.ret 0]
noncomputable def am_t40 : List (Nat × List Instr) := [(0, am_B40_0), (14, am_B40_14), (21, am_B40_21), (41, am_B40_41), (49, am_B40_49)]
noncomputable def am_B41_0 : List Instr := [.iload 0, .ldc 0, .ldc 6, .invokeinterface 15 3, .ret 1]
noncomputable def am_t41 : List (Nat × List Instr) := [(0, am_B41_0)]
noncomputable def am_B42_0 : List Instr := [.aload 0, .getfield 160, .ldc 1, .iaload, .istore 5, .aload 0, .getfield 160, .iload 5, .ldc 0, .invokeinterface 29 2, .iload 1, .iastore, .aload 0, .getfield 160, .iload 5, .ldc 1, .invokeinterface 29 2, .iload 2, .iastore, .aload 0, .getfield 160, .iload 5, .ldc 2, .invokeinterface 29 2, .iload 3, .iastore, .aload 0, .getfield 160, .iload 5, .ldc 3, .invokeinterface 29 2, .iload 4, .iastore, .aload 0, .getfield 160, .iload 5, .ldc 4, .invokeinterface 29 2, .ldc 0, .iastore, .aload 0, .getfield 160, .ldc 1, .dup2, .iaload, .ldc 1, .iadd, .iastore, .iload 5, .ret 0]
noncomputable def am_t42 : List (Nat × List Instr) := [(0, am_B42_0)]
noncomputable def am_B43_0 : List Instr := [.aload 0, .iload 1, .invokeinterface 44 2, .ifCond .eq 18, .iload 2, .ldc 0, .ldc 7, .invokeinterface 11 3, .ifCond .ne 25, .goto_w 18]
noncomputable def am_B43_18 : List Instr := [.aload 0, .sipush (-1000001), .invokeinterface 12 2, .ret 0]
noncomputable def am_B43_25 : List Instr := [.iload 2, .ldc 4, .if_icmp .gt 40, .aload 0, .getfield 128, .iload 1, .iload 2, .invokeinterface 45 3, .ret 0]
noncomputable def am_B43_40 : List Instr := [.aload 0, .getfield 128, .invokeinterface 20 1, .iload 2, .ldc 5, .if_icmp .ne 62, .aload 0, .getfield 128, .getfield 107, .iload 1, .iaload, .ret 0]
noncomputable def am_B43_62 : List Instr := [.iload 2, .ldc 6, .if_icmp .ne 77, .aload 0, .getfield 128, .iload 1, .invokeinterface 46 2, .ret 0]
noncomputable def am_B43_77 : List Instr := [.aload 0, .getfield 128, .iload 1, .invokeinterface 48 2, .ifCond .eq 92, .ldc 1, .goto 93]
noncomputable def am_B43_92 : List Instr := [.ldc 0, .goto_w 93]
noncomputable def am_B43_93 : List Instr := [.ret 0]
noncomputable def am_t43 : List (Nat × List Instr) := [(0, am_B43_0), (18, am_B43_18), (25, am_B43_25), (40, am_B43_40), (62, am_B43_62), (77, am_B43_77), (92, am_B43_92), (93, am_B43_93)]
noncomputable def am_B44_0 : List Instr := [.iload 1, .ldc 0, .aload 0, .getfield 128, .getfield 103, .ldc 1, .isub, .invokeinterface 11 3, .ret 1]
noncomputable def am_t44 : List (Nat × List Instr) := [(0, am_B44_0)]
noncomputable def am_B45_0 : List Instr := [.iload 2, .tableswitch 60 0 3 #[32, 39, 46, 53]]
noncomputable def am_B45_32 : List Instr := [.aload 0, .getfield 97, .iload 1, .iaload, .ret 0]
noncomputable def am_B45_39 : List Instr := [.aload 0, .getfield 98, .iload 1, .iaload, .ret 0]
noncomputable def am_B45_46 : List Instr := [.aload 0, .getfield 99, .iload 1, .iaload, .ret 0]
noncomputable def am_B45_53 : List Instr := [.aload 0, .getfield 100, .iload 1, .iaload, .ret 0]
noncomputable def am_B45_60 : List Instr := [.aload 0, .getfield 101, .iload 1, .iaload, .ret 0]
noncomputable def am_t45 : List (Nat × List Instr) := [(0, am_B45_0), (32, am_B45_32), (39, am_B45_39), (46, am_B45_46), (53, am_B45_53), (60, am_B45_60)]
noncomputable def am_B46_0 : List Instr := [.aload 0, .getfield 107, .iload 1, .iaload, .istore 2, .iload 2, .invokeinterface 10 1, .ifCond .eq 32, .aload 0, .getfield 96, .iload 2, .iaload, .aload 0, .getfield 108, .iload 2, .iaload, .invokeinterface 47 2, .goto 33]
noncomputable def am_B46_32 : List Instr := [.ldc 0, .goto_w 33]
noncomputable def am_B46_33 : List Instr := [.ret 0]
noncomputable def am_t46 : List (Nat × List Instr) := [(0, am_B46_0), (32, am_B46_32), (33, am_B46_33)]
noncomputable def am_B47_0 : List Instr := [.iload 1, .ifCond .le 10, .iload 0, .iload 1, .idiv, .goto 11]
noncomputable def am_B47_10 : List Instr := [.ldc 0, .goto_w 11]
noncomputable def am_B47_11 : List Instr := [.ret 0]
noncomputable def am_t47 : List (Nat × List Instr) := [(0, am_B47_0), (10, am_B47_10), (11, am_B47_11)]
noncomputable def am_B48_0 : List Instr := [.aload 0, .iload 1, .invokeinterface 46 2, .istore 2, .ldc 0, .istore 3, .goto_w 8]
noncomputable def am_B48_8 : List Instr := [.iload 3, .ldc 8, .if_icmp .ge 53, .iload 3, .aload 0, .getfield 107, .iload 1, .iaload, .if_icmp .eq 47, .aload 0, .getfield 96, .iload 3, .iaload, .aload 0, .getfield 108, .iload 3, .iaload, .ldc 1, .iadd, .invokeinterface 47 2, .iload 2, .if_icmp .le 47, .ldc 1, .ret 1]
noncomputable def am_B48_47 : List Instr := [.iinc 3 1, .goto 8]
noncomputable def am_B48_53 : List Instr := [.ldc 0, .ret 1]
noncomputable def am_t48 : List (Nat × List Instr) := [(0, am_B48_0), (8, am_B48_8), (47, am_B48_47), (53, am_B48_53)]
noncomputable def am_B49_0 : List Instr := [.aload 0, .iload 1, .invokeinterface 50 2, .ifCond .eq 18, .iload 2, .ldc 0, .ldc 7, .invokeinterface 15 3, .ifCond .ne 25, .goto_w 18]
noncomputable def am_B49_18 : List Instr := [.aload 0, .sipush (-1000001), .invokeinterface 18 2, .ret 0]
noncomputable def am_B49_25 : List Instr := [.aload 0, .invokeinterface 26 1, .iload 2, .tableswitch 84 5 7 #[56, 63, 70]]
noncomputable def am_B49_56 : List Instr := [.aload 0, .getfield 165, .iload 1, .iaload, .ret 0]
noncomputable def am_B49_63 : List Instr := [.aload 0, .getfield 166, .iload 1, .iaload, .ret 0]
noncomputable def am_B49_70 : List Instr := [.aload 0, .iload 1, .invokeinterface 51 2, .ifCond .eq 82, .ldc 1, .goto 83]
noncomputable def am_B49_82 : List Instr := [.ldc 0, .goto_w 83]
noncomputable def am_B49_83 : List Instr := [.ret 0]
noncomputable def am_B49_84 : List Instr := [.aload 0, .iload 1, .iload 2, .invokeinterface 28 3, .ret 0]
noncomputable def am_t49 : List (Nat × List Instr) := [(0, am_B49_0), (18, am_B49_18), (25, am_B49_25), (56, am_B49_56), (63, am_B49_63), (70, am_B49_70), (82, am_B49_82), (83, am_B49_83), (84, am_B49_84)]
noncomputable def am_B50_0 : List Instr := [.iload 1, .ldc 0, .aload 0, .getfield 160, .ldc 1, .iaload, .ldc 1, .isub, .invokeinterface 15 3, .ret 1]
noncomputable def am_t50 : List (Nat × List Instr) := [(0, am_B50_0)]
noncomputable def am_B51_0 : List Instr := [.ldc 0, .istore 2, .ldc 0, .istore 3, .goto_w 4]
noncomputable def am_B51_4 : List Instr := [.iload 3, .ldc 8, .if_icmp .ge 65, .iload 2, .ifCond .ne 53, .iload 3, .aload 0, .getfield 165, .iload 1, .iaload, .if_icmp .eq 57, .aload 0, .getfield 160, .ldc 13, .iload 3, .iadd, .iaload, .ldc 1, .aload 0, .iload 3, .invokeinterface 36 2, .invokeinterface 33 1, .iadd, .idiv, .aload 0, .getfield 166, .iload 1, .iaload, .if_icmp .le 57, .goto_w 53]
noncomputable def am_B51_53 : List Instr := [.ldc 1, .goto 58]
noncomputable def am_B51_57 : List Instr := [.ldc 0, .goto_w 58]
noncomputable def am_B51_58 : List Instr := [.istore 2, .iinc 3 1, .goto 4]
noncomputable def am_B51_65 : List Instr := [.iload 2, .ret 1]
noncomputable def am_t51 : List (Nat × List Instr) := [(0, am_B51_0), (4, am_B51_4), (53, am_B51_53), (57, am_B51_57), (58, am_B51_58), (65, am_B51_65)]
noncomputable def am_B52_0 : List Instr := [.aload 0, .iload 1, .invokeinterface 44 2, .ifCond .eq 21, .aload 0, .getfield 128, .iload 1, .iload 2, .iload 3, .invokeinterface 53 4, .ifCond .ne 28, .goto_w 21]
noncomputable def am_B52_21 : List Instr := [.aload 0, .sipush (-1000001), .invokeinterface 12 2, .ret 0]
noncomputable def am_B52_28 : List Instr := [.aload 0, .getfield 128, .iload 1, .iload 2, .invokeinterface 45 3, .istore 4, .aload 0, .getfield 128, .iload 1, .iload 2, .iload 3, .invokeinterface 54 4, .iload 4, .ret 0]
noncomputable def am_t52 : List (Nat × List Instr) := [(0, am_B52_0), (21, am_B52_21), (28, am_B52_28)]
noncomputable def am_B53_0 : List Instr := [.iload 2, .tableswitch 87 0 4 #[36, 41, 46, 54, 79]]
noncomputable def am_B53_36 : List Instr := [.iload 3, .invokeinterface 38 1, .ret 1]
noncomputable def am_B53_41 : List Instr := [.iload 3, .invokeinterface 10 1, .ret 1]
noncomputable def am_B53_46 : List Instr := [.iload 3, .ldc 0, .ldc 7, .invokeinterface 11 3, .ret 1]
noncomputable def am_B53_54 : List Instr := [.iload 3, .sipush (-1), .aload 0, .getfield 103, .ldc 1, .isub, .invokeinterface 11 3, .ifCond .eq 77, .iload 3, .iload 1, .if_icmp .eq 77, .ldc 1, .goto 78]
noncomputable def am_B53_77 : List Instr := [.ldc 0, .goto_w 78]
noncomputable def am_B53_78 : List Instr := [.ret 1]
noncomputable def am_B53_79 : List Instr := [.iload 3, .ldc 0, .ldc 99999, .invokeinterface 11 3, .ret 1]
noncomputable def am_B53_87 : List Instr := [.ldc 0, .ret 1]
noncomputable def am_t53 : List (Nat × List Instr) := [(0, am_B53_0), (36, am_B53_36), (41, am_B53_41), (46, am_B53_46), (54, am_B53_54), (77, am_B53_77), (78, am_B53_78), (79, am_B53_79), (87, am_B53_87)]
noncomputable def am_B54_0 : List Instr := [.iload 2, .tableswitch 72 0 3 #[32, 42, 52, 62]]
noncomputable def am_B54_32 : List Instr := [.aload 0, .getfield 97, .iload 1, .iload 3, .iastore, .goto 79]
noncomputable def am_B54_42 : List Instr := [.aload 0, .getfield 98, .iload 1, .iload 3, .iastore, .goto 79]
noncomputable def am_B54_52 : List Instr := [.aload 0, .getfield 99, .iload 1, .iload 3, .iastore, .goto 79]
noncomputable def am_B54_62 : List Instr := [.aload 0, .getfield 100, .iload 1, .iload 3, .iastore, .goto 79]
noncomputable def am_B54_72 : List Instr := [.aload 0, .getfield 101, .iload 1, .iload 3, .iastore, .goto_w 79]
noncomputable def am_B54_79 : List Instr := [.return_]
noncomputable def am_t54 : List (Nat × List Instr) := [(0, am_B54_0), (32, am_B54_32), (42, am_B54_42), (52, am_B54_52), (62, am_B54_62), (72, am_B54_72), (79, am_B54_79)]
noncomputable def am_B55_0 : List Instr := [.aload 0, .iload 1, .invokeinterface 50 2, .ifCond .eq 31, .aload 0, .iload 1, .iload 2, .iload 3, .invokeinterface 56 4, .ifCond .eq 31, .aload 0, .iload 1, .iload 2, .invokeinterface 29 2, .iload 3, .invokeinterface 17 3, .goto 37]
noncomputable def am_B55_31 : List Instr := [.aload 0, .sipush (-1000001), .invokeinterface 18 2, .goto_w 37]
noncomputable def am_B55_37 : List Instr := [.ret 0]
noncomputable def am_t55 : List (Nat × List Instr) := [(0, am_B55_0), (31, am_B55_31), (37, am_B55_37)]
noncomputable def am_B56_0 : List Instr := [.iload 2, .tableswitch 78 0 4 #[36, 41, 41, 46, 70]]
noncomputable def am_B56_36 : List Instr := [.iload 3, .invokeinterface 41 1, .ret 1]
noncomputable def am_B56_41 : List Instr := [.iload 3, .invokeinterface 14 1, .ret 1]
noncomputable def am_B56_46 : List Instr := [.iload 3, .sipush (-1), .if_icmp .eq 64, .aload 0, .iload 3, .invokeinterface 50 2, .ifCond .eq 68, .iload 3, .iload 1, .if_icmp .eq 68, .goto_w 64]
noncomputable def am_B56_64 : List Instr := [.ldc 1, .goto 69]
noncomputable def am_B56_68 : List Instr := [.ldc 0, .goto_w 69]
noncomputable def am_B56_69 : List Instr := [.ret 1]
noncomputable def am_B56_70 : List Instr := [.iload 3, .ldc 0, .ldc 99999, .invokeinterface 15 3, .ret 1]
noncomputable def am_B56_78 : List Instr := [.ldc 0, .ret 1]
noncomputable def am_t56 : List (Nat × List Instr) := [(0, am_B56_0), (36, am_B56_36), (41, am_B56_41), (46, am_B56_46), (64, am_B56_64), (68, am_B56_68), (69, am_B56_69), (70, am_B56_70), (78, am_B56_78)]
noncomputable def am_B57_0 : List Instr := [.aload 0, .iload 1, .invokeinterface 44 2, .ifCond .eq 15, .iload 2, .invokeinterface 10 1, .ifCond .ne 22, .goto_w 15]
noncomputable def am_B57_15 : List Instr := [.aload 0, .sipush (-1000001), .invokeinterface 12 2, .ret 0]
noncomputable def am_B57_22 : List Instr := [.aload 0, .getfield 128, .iload 1, .iload 2, .invokeinterface 58 3, .ifCond .ne 41, .aload 0, .sipush (-1000004), .invokeinterface 12 2, .ret 0]
noncomputable def am_B57_41 : List Instr := [.aload 0, .getfield 128, .invokeinterface 20 1, .aload 0, .getfield 128, .iload 1, .iload 2, .invokeinterface 59 3, .ret 0]
noncomputable def am_t57 : List (Nat × List Instr) := [(0, am_B57_0), (15, am_B57_15), (22, am_B57_22), (41, am_B57_41)]
noncomputable def am_B58_0 : List Instr := [.aload 0, .getfield 98, .iload 1, .iaload, .iload 2, .isub, .invokeinterface 998 1, .aload 0, .getfield 99, .iload 1, .iaload, .if_icmp .gt 24, .ldc 1, .goto 25]
noncomputable def am_B58_24 : List Instr := [.ldc 0, .goto_w 25]
noncomputable def am_B58_25 : List Instr := [.ret 1]
noncomputable def am_t58 : List (Nat × List Instr) := [(0, am_B58_0), (24, am_B58_24), (25, am_B58_25)]
noncomputable def am_B59_0 : List Instr := [.aload 0, .getfield 106, .iload 2, .iaload, .aload 0, .getfield 98, .iload 1, .iaload, .iload 2, .if_icmp .ne 20, .ldc 1, .goto 21]
noncomputable def am_B59_20 : List Instr := [.ldc 0, .goto_w 21]
noncomputable def am_B59_21 : List Instr := [.isub, .ret 0]
noncomputable def am_t59 : List (Nat × List Instr) := [(0, am_B59_0), (20, am_B59_20), (21, am_B59_21)]
noncomputable def am_B60_0 : List Instr := [.aload 0, .iload 1, .invokeinterface 50 2, .ifCond .eq 15, .iload 2, .invokeinterface 14 1, .ifCond .ne 22, .goto_w 15]
noncomputable def am_B60_15 : List Instr := [.aload 0, .sipush (-1000001), .invokeinterface 18 2, .ret 0]
noncomputable def am_B60_22 : List Instr := [.aload 0, .iload 1, .iload 2, .invokeinterface 35 3, .ifCond .eq 40, .aload 0, .iload 1, .iload 2, .invokeinterface 31 3, .goto 46]
noncomputable def am_B60_40 : List Instr := [.aload 0, .sipush (-1000004), .invokeinterface 18 2, .goto_w 46]
noncomputable def am_B60_46 : List Instr := [.ret 0]
noncomputable def am_t60 : List (Nat × List Instr) := [(0, am_B60_0), (15, am_B60_15), (22, am_B60_22), (40, am_B60_40), (46, am_B60_46)]
noncomputable def am_B61_0 : List Instr := [.aload 0, .iload 1, .invokeinterface 44 2, .ifCond .eq 15, .iload 2, .invokeinterface 10 1, .ifCond .ne 22, .goto_w 15]
noncomputable def am_B61_15 : List Instr := [.aload 0, .sipush (-1000001), .invokeinterface 12 2, .ret 0]
noncomputable def am_B61_22 : List Instr := [.aload 0, .getfield 128, .iload 1, .iload 2, .invokeinterface 58 3, .ifCond .ne 41, .aload 0, .sipush (-1000004), .invokeinterface 12 2, .ret 0]
noncomputable def am_B61_41 : List Instr := [.aload 0, .getfield 128, .invokeinterface 20 1, .aload 0, .getfield 128, .iload 1, .iload 2, .invokeinterface 22 3, .ret 0]
noncomputable def am_t61 : List (Nat × List Instr) := [(0, am_B61_0), (15, am_B61_15), (22, am_B61_22), (41, am_B61_41)]
noncomputable def am_B62_0 : List Instr := [.aload 0, .iload 1, .invokeinterface 50 2, .ifCond .eq 15, .iload 2, .invokeinterface 14 1, .ifCond .ne 22, .goto_w 15]
noncomputable def am_B62_15 : List Instr := [.aload 0, .sipush (-1000001), .invokeinterface 18 2, .ret 0]
noncomputable def am_B62_22 : List Instr := [.aload 0, .iload 1, .iload 2, .invokeinterface 35 3, .ifCond .eq 40, .aload 0, .iload 1, .iload 2, .invokeinterface 30 3, .goto 46]
noncomputable def am_B62_40 : List Instr := [.aload 0, .sipush (-1000004), .invokeinterface 18 2, .goto_w 46]
noncomputable def am_B62_46 : List Instr := [.ret 0]
noncomputable def am_t62 : List (Nat × List Instr) := [(0, am_B62_0), (15, am_B62_15), (22, am_B62_22), (40, am_B62_40), (46, am_B62_46)]
noncomputable def am_B63_0 : List Instr := [.iload 1, .ldc 1, .ldc 60, .invokeinterface 11 3, .ifCond .ne 17, .aload 0, .sipush (-1000001), .invokeinterface 12 2, .ret 0]
noncomputable def am_B63_17 : List Instr := [.aload 0, .getfield 128, .getfield 104, .ldc 99999, .iload 1, .isub, .if_icmp .le 38, .aload 0, .sipush (-1000005), .invokeinterface 12 2, .ret 0]
noncomputable def am_B63_38 : List Instr := [.aload 0, .getfield 128, .iload 1, .invokeinterface 64 2, .aload 0, .getfield 128, .invokeinterface 65 1, .ret 0]
noncomputable def am_t63 : List (Nat × List Instr) := [(0, am_B63_0), (17, am_B63_17), (38, am_B63_38)]
noncomputable def am_B64_0 : List Instr := [.ldc 0, .istore 2, .goto_w 2]
noncomputable def am_B64_2 : List Instr := [.iload 2, .iload 1, .if_icmp .ge 120, .aload 0, .invokeinterface 20 1, .ldc 0, .istore 3, .goto_w 13]
noncomputable def am_B64_13 : List Instr := [.iload 3, .aload 0, .getfield 103, .if_icmp .ge 50, .aload 0, .getfield 101, .iload 3, .ldc 99999, .aload 0, .getfield 101, .iload 3, .iaload, .aload 0, .iload 3, .invokeinterface 46 2, .iadd, .invokeinterface 996 2, .iastore, .iinc 3 1, .goto 13]
noncomputable def am_B64_50 : List Instr := [.ldc 0, .istore 3, .goto_w 52]
noncomputable def am_B64_52 : List Instr := [.iload 3, .aload 0, .getfield 103, .if_icmp .ge 99, .aload 0, .getfield 97, .iload 3, .iaload, .ldc 5, .if_icmp .eq 93, .aload 0, .getfield 97, .iload 3, .iaload, .ldc 6, .if_icmp .eq 93, .aload 0, .getfield 98, .iload 3, .aload 0, .getfield 107, .iload 3, .iaload, .iastore, .goto_w 93]
noncomputable def am_B64_93 : List Instr := [.iinc 3 1, .goto 52]
noncomputable def am_B64_99 : List Instr := [.aload 0, .ldc 99999, .aload 0, .getfield 104, .ldc 1, .iadd, .invokeinterface 996 2, .putfield 104, .iinc 2 1, .goto 2]
noncomputable def am_B64_120 : List Instr := [.return_]
noncomputable def am_t64 : List (Nat × List Instr) := [(0, am_B64_0), (2, am_B64_2), (13, am_B64_13), (50, am_B64_50), (52, am_B64_52), (93, am_B64_93), (99, am_B64_99), (120, am_B64_120)]
noncomputable def am_B65_0 : List Instr := [.ldc 0, .istore 1, .ldc 0, .istore 2, .goto_w 4]
noncomputable def am_B65_4 : List Instr := [.iload 2, .aload 0, .getfield 103, .if_icmp .ge 27, .iload 1, .aload 0, .getfield 101, .iload 2, .iaload, .iadd, .istore 1, .iinc 2 1, .goto 4]
noncomputable def am_B65_27 : List Instr := [.iload 1, .ret 0]
noncomputable def am_t65 : List (Nat × List Instr) := [(0, am_B65_0), (4, am_B65_4), (27, am_B65_27)]
noncomputable def am_B66_0 : List Instr := [.iload 1, .ldc 1, .ldc 60, .invokeinterface 15 3, .ifCond .ne 17, .aload 0, .sipush (-1000001), .invokeinterface 18 2, .ret 0]
noncomputable def am_B66_17 : List Instr := [.aload 0, .getfield 160, .ldc 0, .iaload, .iload 1, .iadd, .ldc 99999, .if_icmp .le 37, .aload 0, .sipush (-1000005), .invokeinterface 18 2, .ret 0]
noncomputable def am_B66_37 : List Instr := [.aload 0, .iload 1, .invokeinterface 67 2, .aload 0, .invokeinterface 69 1, .ret 0]
noncomputable def am_t66 : List (Nat × List Instr) := [(0, am_B66_0), (17, am_B66_17), (37, am_B66_37)]
noncomputable def am_B67_0 : List Instr := [.ldc 0, .istore 2, .goto_w 2]
noncomputable def am_B67_2 : List Instr := [.iload 2, .iload 1, .if_icmp .ge 17, .aload 0, .invokeinterface 68 1, .iinc 2 1, .goto 2]
noncomputable def am_B67_17 : List Instr := [.return_]
noncomputable def am_t67 : List (Nat × List Instr) := [(0, am_B67_0), (2, am_B67_2), (17, am_B67_17)]
noncomputable def am_B68_0 : List Instr := [.aload 0, .invokeinterface 26 1, .ldc 0, .istore 1, .goto_w 6]
noncomputable def am_B68_6 : List Instr := [.iload 1, .aload 0, .getfield 160, .ldc 1, .iaload, .if_icmp .ge 114, .aload 0, .getfield 160, .iload 1, .ldc 4, .invokeinterface 29 2, .ldc 99999, .aload 0, .iload 1, .ldc 4, .invokeinterface 28 3, .aload 0, .getfield 166, .iload 1, .iaload, .iadd, .invokeinterface 996 2, .iastore, .iload 1, .aload 0, .getfield 167, .if_icmp .eq 73, .aload 0, .iload 1, .ldc 0, .invokeinterface 28 3, .ldc 5, .if_icmp .eq 73, .aload 0, .iload 1, .ldc 0, .invokeinterface 28 3, .ldc 6, .if_icmp .ne 77, .goto_w 73]
noncomputable def am_B68_73 : List Instr := [.ldc 1, .goto 78]
noncomputable def am_B68_77 : List Instr := [.ldc 0, .goto_w 78]
noncomputable def am_B68_78 : List Instr := [.istore 2, .aload 0, .getfield 160, .iload 1, .ldc 1, .invokeinterface 29 2, .iload 2, .ifCond .eq 101, .aload 0, .iload 1, .ldc 1, .invokeinterface 28 3, .goto 107]
noncomputable def am_B68_101 : List Instr := [.aload 0, .getfield 165, .iload 1, .iaload, .goto_w 107]
noncomputable def am_B68_107 : List Instr := [.iastore, .iinc 1 1, .goto 6]
noncomputable def am_B68_114 : List Instr := [.aload 0, .getfield 160, .ldc 0, .dup2, .iaload, .ldc 1, .iadd, .iastore, .return_]
noncomputable def am_t68 : List (Nat × List Instr) := [(0, am_B68_0), (6, am_B68_6), (73, am_B68_73), (77, am_B68_77), (78, am_B68_78), (101, am_B68_101), (107, am_B68_107), (114, am_B68_114)]
noncomputable def am_B69_0 : List Instr := [.ldc 0, .istore 1, .ldc 0, .istore 2, .goto_w 4]
noncomputable def am_B69_4 : List Instr := [.iload 2, .aload 0, .getfield 160, .ldc 1, .iaload, .if_icmp .ge 29, .iload 1, .aload 0, .iload 2, .ldc 4, .invokeinterface 28 3, .iadd, .istore 1, .iinc 2 1, .goto 4]
noncomputable def am_B69_29 : List Instr := [.iload 1, .ret 0]
noncomputable def am_t69 : List (Nat × List Instr) := [(0, am_B69_0), (4, am_B69_4), (29, am_B69_29)]
noncomputable def am_B70_0 : List Instr := [.iload 1, .ldc 0, .ldc 5, .invokeinterface 11 3, .ifCond .ne 16, .aload 0, .sipush (-1000001), .invokeinterface 12 2, .ret 0]
noncomputable def am_B70_16 : List Instr := [.aload 0, .getfield 128, .invokeinterface 20 1, .iload 1, .tableswitch 100 0 4 #[60, 68, 76, 84, 92]]
noncomputable def am_B70_60 : List Instr := [.aload 0, .getfield 128, .getfield 104, .ret 0]
noncomputable def am_B70_68 : List Instr := [.aload 0, .getfield 128, .invokeinterface 65 1, .ret 0]
noncomputable def am_B70_76 : List Instr := [.aload 0, .getfield 128, .invokeinterface 71 1, .ret 0]
noncomputable def am_B70_84 : List Instr := [.aload 0, .getfield 128, .invokeinterface 72 1, .ret 0]
noncomputable def am_B70_92 : List Instr := [.aload 0, .getfield 128, .invokeinterface 73 1, .ret 0]
noncomputable def am_B70_100 : List Instr := [.aload 0, .getfield 128, .invokeinterface 74 1, .ret 0]
noncomputable def am_t70 : List (Nat × List Instr) := [(0, am_B70_0), (16, am_B70_16), (60, am_B70_60), (68, am_B70_68), (76, am_B70_76), (84, am_B70_84), (92, am_B70_92), (100, am_B70_100)]
noncomputable def am_B71_0 : List Instr := [.ldc 0, .istore 1, .ldc 0, .istore 2, .goto_w 4]
noncomputable def am_B71_4 : List Instr := [.iload 2, .aload 0, .getfield 103, .if_icmp .ge 36, .iload 1, .aload 0, .iload 2, .invokeinterface 48 2, .ifCond .eq 27, .ldc 1, .iload 2, .ishl, .goto 28]
noncomputable def am_B71_27 : List Instr := [.ldc 0, .goto_w 28]
noncomputable def am_B71_28 : List Instr := [.ior, .istore 1, .iinc 2 1, .goto 4]
noncomputable def am_B71_36 : List Instr := [.iload 1, .ret 0]
noncomputable def am_t71 : List (Nat × List Instr) := [(0, am_B71_0), (4, am_B71_4), (27, am_B71_27), (28, am_B71_28), (36, am_B71_36)]
noncomputable def am_B72_0 : List Instr := [.ldc 0, .istore 1, .ldc 0, .istore 2, .goto_w 4]
noncomputable def am_B72_4 : List Instr := [.iload 2, .ldc 8, .if_icmp .ge 35, .iload 1, .aload 0, .getfield 108, .iload 2, .iaload, .ifCond .le 26, .ldc 1, .iload 2, .ishl, .goto 27]
noncomputable def am_B72_26 : List Instr := [.ldc 0, .goto_w 27]
noncomputable def am_B72_27 : List Instr := [.ior, .istore 1, .iinc 2 1, .goto 4]
noncomputable def am_B72_35 : List Instr := [.iload 1, .ret 0]
noncomputable def am_t72 : List (Nat × List Instr) := [(0, am_B72_0), (4, am_B72_4), (26, am_B72_26), (27, am_B72_27), (35, am_B72_35)]
noncomputable def am_B73_0 : List Instr := [.ldc 0, .istore 1, .ldc 0, .istore 2, .goto_w 4]
noncomputable def am_B73_4 : List Instr := [.iload 2, .aload 0, .getfield 103, .if_icmp .ge 43, .iload 1, .aload 0, .getfield 107, .iload 2, .iaload, .aload 0, .getfield 98, .iload 2, .iaload, .if_icmp .eq 34, .ldc 1, .iload 2, .ishl, .goto 35]
noncomputable def am_B73_34 : List Instr := [.ldc 0, .goto_w 35]
noncomputable def am_B73_35 : List Instr := [.ior, .istore 1, .iinc 2 1, .goto 4]
noncomputable def am_B73_43 : List Instr := [.iload 1, .ret 0]
noncomputable def am_t73 : List (Nat × List Instr) := [(0, am_B73_0), (4, am_B73_4), (34, am_B73_34), (35, am_B73_35), (43, am_B73_43)]
noncomputable def am_B74_0 : List Instr := [.sipush (-1), .istore 1, .ldc 0, .istore 2, .goto_w 4]
noncomputable def am_B74_4 : List Instr := [.iload 2, .aload 0, .getfield 103, .if_icmp .ge 40, .iload 1, .sipush (-1), .if_icmp .eq 32, .aload 0, .getfield 101, .iload 2, .iaload, .aload 0, .getfield 101, .iload 1, .iaload, .if_icmp .le 34, .goto_w 32]
noncomputable def am_B74_32 : List Instr := [.iload 2, .istore 1, .goto_w 34]
noncomputable def am_B74_34 : List Instr := [.iinc 2 1, .goto 4]
noncomputable def am_B74_40 : List Instr := [.iload 1, .ret 0]
noncomputable def am_t74 : List (Nat × List Instr) := [(0, am_B74_0), (4, am_B74_4), (32, am_B74_32), (34, am_B74_34), (40, am_B74_40)]
noncomputable def am_B75_0 : List Instr := [.iload 1, .tableswitch 72 0 5 #[40, 47, 52, 57, 62, 67]]
noncomputable def am_B75_40 : List Instr := [.aload 0, .getfield 160, .ldc 0, .iaload, .ret 0]
noncomputable def am_B75_47 : List Instr := [.aload 0, .invokeinterface 69 1, .ret 0]
noncomputable def am_B75_52 : List Instr := [.aload 0, .invokeinterface 76 1, .ret 0]
noncomputable def am_B75_57 : List Instr := [.aload 0, .invokeinterface 77 1, .ret 0]
noncomputable def am_B75_62 : List Instr := [.aload 0, .invokeinterface 78 1, .ret 0]
noncomputable def am_B75_67 : List Instr := [.aload 0, .invokeinterface 79 1, .ret 0]
noncomputable def am_B75_72 : List Instr := [.aload 0, .sipush (-1000001), .invokeinterface 18 2, .ret 0]
noncomputable def am_t75 : List (Nat × List Instr) := [(0, am_B75_0), (40, am_B75_40), (47, am_B75_47), (52, am_B75_52), (57, am_B75_57), (62, am_B75_62), (67, am_B75_67), (72, am_B75_72)]
noncomputable def am_B76_0 : List Instr := [.aload 0, .invokeinterface 26 1, .ldc 0, .istore 1, .ldc 0, .istore 2, .goto_w 8]
noncomputable def am_B76_8 : List Instr := [.iload 2, .aload 0, .getfield 160, .ldc 1, .iaload, .if_icmp .ge 42, .iload 1, .aload 0, .iload 2, .invokeinterface 51 2, .ifCond .eq 33, .ldc 1, .iload 2, .ishl, .goto 34]
noncomputable def am_B76_33 : List Instr := [.ldc 0, .goto_w 34]
noncomputable def am_B76_34 : List Instr := [.ior, .istore 1, .iinc 2 1, .goto 8]
noncomputable def am_B76_42 : List Instr := [.iload 1, .ret 0]
noncomputable def am_t76 : List (Nat × List Instr) := [(0, am_B76_0), (8, am_B76_8), (33, am_B76_33), (34, am_B76_34), (42, am_B76_42)]
noncomputable def am_B77_0 : List Instr := [.aload 0, .invokeinterface 26 1, .ldc 0, .istore 1, .ldc 0, .istore 2, .goto_w 8]
noncomputable def am_B77_8 : List Instr := [.iload 2, .aload 0, .getfield 160, .ldc 1, .iaload, .if_icmp .ge 35, .iload 1, .ldc 1, .aload 0, .getfield 165, .iload 2, .iaload, .ishl, .ior, .istore 1, .iinc 2 1, .goto 8]
noncomputable def am_B77_35 : List Instr := [.iload 1, .ret 0]
noncomputable def am_t77 : List (Nat × List Instr) := [(0, am_B77_0), (8, am_B77_8), (35, am_B77_35)]
noncomputable def am_B78_0 : List Instr := [.aload 0, .invokeinterface 26 1, .ldc 0, .istore 1, .ldc 0, .istore 2, .goto_w 8]
noncomputable def am_B78_8 : List Instr := [.iload 2, .aload 0, .getfield 160, .ldc 1, .iaload, .if_icmp .ge 49, .iload 1, .aload 0, .getfield 165, .iload 2, .iaload, .aload 0, .iload 2, .ldc 1, .invokeinterface 28 3, .if_icmp .eq 40, .ldc 1, .iload 2, .ishl, .goto 41]
noncomputable def am_B78_40 : List Instr := [.ldc 0, .goto_w 41]
noncomputable def am_B78_41 : List Instr := [.ior, .istore 1, .iinc 2 1, .goto 8]
noncomputable def am_B78_49 : List Instr := [.iload 1, .ret 0]
noncomputable def am_t78 : List (Nat × List Instr) := [(0, am_B78_0), (8, am_B78_8), (40, am_B78_40), (41, am_B78_41), (49, am_B78_49)]
noncomputable def am_B79_0 : List Instr := [.sipush (-1), .istore 1, .ldc 0, .istore 2, .goto_w 4]
noncomputable def am_B79_4 : List Instr := [.iload 2, .aload 0, .getfield 160, .ldc 1, .iaload, .if_icmp .ge 45, .iload 1, .ifCond .lt 33, .aload 0, .iload 2, .ldc 4, .invokeinterface 28 3, .aload 0, .iload 1, .ldc 4, .invokeinterface 28 3, .if_icmp .le 37, .goto_w 33]
noncomputable def am_B79_33 : List Instr := [.iload 2, .goto 38]
noncomputable def am_B79_37 : List Instr := [.iload 1, .goto_w 38]
noncomputable def am_B79_38 : List Instr := [.istore 1, .iinc 2 1, .goto 4]
noncomputable def am_B79_45 : List Instr := [.iload 1, .ret 0]
noncomputable def am_t79 : List (Nat × List Instr) := [(0, am_B79_0), (4, am_B79_4), (33, am_B79_33), (37, am_B79_37), (38, am_B79_38), (45, am_B79_45)]
noncomputable def am_B80_0 : List Instr := [.aload 0, .iload 1, .invokeinterface 44 2, .ifCond .eq 18, .iload 2, .ldc 0, .ldc 100, .invokeinterface 11 3, .ifCond .ne 25, .goto_w 18]
noncomputable def am_B80_18 : List Instr := [.aload 0, .sipush (-1000001), .invokeinterface 12 2, .ret 0]
noncomputable def am_B80_25 : List Instr := [.aload 0, .getfield 130, .aload 0, .getfield 128, .invokeinterface 81 2, .aload 0, .getfield 130, .iload 2, .invokeinterface 64 2, .aload 0, .getfield 130, .getfield 101, .iload 1, .iaload, .ret 0]
noncomputable def am_t80 : List (Nat × List Instr) := [(0, am_B80_0), (18, am_B80_18), (25, am_B80_25)]
noncomputable def am_B81_0 : List Instr := [.aload 1, .getfield 96, .ldc 0, .aload 0, .getfield 96, .ldc 0, .ldc 8, .invokeinterface 999 5, .aload 1, .getfield 97, .ldc 0, .aload 0, .getfield 97, .ldc 0, .ldc 8, .invokeinterface 999 5, .aload 1, .getfield 98, .ldc 0, .aload 0, .getfield 98, .ldc 0, .ldc 8, .invokeinterface 999 5, .aload 1, .getfield 99, .ldc 0, .aload 0, .getfield 99, .ldc 0, .ldc 8, .invokeinterface 999 5, .aload 1, .getfield 100, .ldc 0, .aload 0, .getfield 100, .ldc 0, .ldc 8, .invokeinterface 999 5, .aload 1, .getfield 101, .ldc 0, .aload 0, .getfield 101, .ldc 0, .ldc 8, .invokeinterface 999 5, .aload 1, .getfield 102, .ldc 0, .aload 0, .getfield 102, .ldc 0, .ldc 10, .invokeinterface 999 5, .aload 0, .aload 1, .getfield 103, .putfield 103, .aload 0, .aload 1, .getfield 104, .putfield 104, .aload 0, .aload 1, .getfield 105, .putfield 105, .return_]
noncomputable def am_t81 : List (Nat × List Instr) := [(0, am_B81_0)]
noncomputable def am_B82_0 : List Instr := [.aload 0, .iload 1, .invokeinterface 50 2, .ifCond .eq 28, .iload 2, .invokeinterface 83 1, .ifCond .eq 28, .aload 0, .iload 1, .ldc 4, .invokeinterface 29 2, .iload 2, .invokeinterface 84 3, .goto 34]
noncomputable def am_B82_28 : List Instr := [.aload 0, .sipush (-1000001), .invokeinterface 18 2, .goto_w 34]
noncomputable def am_B82_34 : List Instr := [.ret 0]
noncomputable def am_t82 : List (Nat × List Instr) := [(0, am_B82_0), (28, am_B82_28), (34, am_B82_34)]
noncomputable def am_B83_0 : List Instr := [.iload 0, .ldc 0, .ldc 100, .invokeinterface 15 3, .ret 1]
noncomputable def am_t83 : List (Nat × List Instr) := [(0, am_B83_0)]
noncomputable def am_B84_0 : List Instr := [.aload 0, .getfield 160, .aload 0, .getfield 162, .invokeinterface 85 2, .aload 0, .iload 2, .invokeinterface 67 2, .aload 0, .aload 0, .getfield 160, .iload 1, .iaload, .invokeinterface 86 2, .ret 0]
noncomputable def am_t84 : List (Nat × List Instr) := [(0, am_B84_0)]
noncomputable def am_B85_0 : List Instr := [.ldc 0, .istore 2, .goto_w 2]
noncomputable def am_B85_2 : List Instr := [.iload 2, .ldc 61, .if_icmp .ge 20, .aload 1, .iload 2, .aload 0, .iload 2, .iaload, .iastore, .iinc 2 1, .goto 2]
noncomputable def am_B85_20 : List Instr := [.return_]
noncomputable def am_t85 : List (Nat × List Instr) := [(0, am_B85_0), (2, am_B85_2), (20, am_B85_20)]
noncomputable def am_B86_0 : List Instr := [.aload 0, .getfield 162, .aload 0, .getfield 160, .invokeinterface 85 2, .iload 1, .ret 0]
noncomputable def am_t86 : List (Nat × List Instr) := [(0, am_B86_0)]
noncomputable def am_B87_0 : List Instr := [.aload 0, .iload 1, .invokeinterface 44 2, .ifCond .eq 18, .iload 2, .ldc 0, .ldc 100, .invokeinterface 11 3, .ifCond .ne 25, .goto_w 18]
noncomputable def am_B87_18 : List Instr := [.aload 0, .sipush (-1000001), .invokeinterface 12 2, .ret 0]
noncomputable def am_B87_25 : List Instr := [.aload 0, .getfield 130, .aload 0, .getfield 128, .invokeinterface 81 2, .aload 0, .getfield 130, .iload 2, .invokeinterface 64 2, .aload 0, .getfield 130, .getfield 98, .iload 1, .iaload, .ret 0]
noncomputable def am_t87 : List (Nat × List Instr) := [(0, am_B87_0), (18, am_B87_18), (25, am_B87_25)]
noncomputable def am_B88_0 : List Instr := [.aload 0, .iload 1, .invokeinterface 50 2, .ifCond .eq 28, .iload 2, .invokeinterface 83 1, .ifCond .eq 28, .aload 0, .iload 1, .ldc 1, .invokeinterface 29 2, .iload 2, .invokeinterface 84 3, .goto 34]
noncomputable def am_B88_28 : List Instr := [.aload 0, .sipush (-1000001), .invokeinterface 18 2, .goto_w 34]
noncomputable def am_B88_34 : List Instr := [.ret 0]
noncomputable def am_t88 : List (Nat × List Instr) := [(0, am_B88_0), (28, am_B88_28), (34, am_B88_34)]
noncomputable def am_B89_0 : List Instr := [.aload 0, .getfield 130, .aload 0, .getfield 128, .invokeinterface 81 2, .ldc 0, .istore 1, .goto_w 13]
noncomputable def am_B89_13 : List Instr := [.iload 1, .ldc 100, .if_icmp .gt 52, .aload 0, .getfield 130, .invokeinterface 20 1, .aload 0, .getfield 130, .invokeinterface 73 1, .ifCond .ne 38, .iload 1, .ret 0]
noncomputable def am_B89_38 : List Instr := [.aload 0, .getfield 130, .ldc 1, .invokeinterface 64 2, .iinc 1 1, .goto 13]
noncomputable def am_B89_52 : List Instr := [.aload 0, .sipush (-1000004), .invokeinterface 12 2, .ret 0]
noncomputable def am_t89 : List (Nat × List Instr) := [(0, am_B89_0), (13, am_B89_13), (38, am_B89_38), (52, am_B89_52)]
noncomputable def am_B90_0 : List Instr := [.aload 0, .getfield 160, .aload 0, .getfield 162, .invokeinterface 85 2, .ldc 0, .istore 1, .goto_w 13]
noncomputable def am_B90_13 : List Instr := [.iload 1, .ldc 100, .if_icmp .ge 36, .aload 0, .invokeinterface 78 1, .ifCond .eq 36, .aload 0, .invokeinterface 68 1, .iinc 1 1, .goto 13]
noncomputable def am_B90_36 : List Instr := [.aload 0, .aload 0, .aload 0, .invokeinterface 78 1, .ifCond .ne 49, .iload 1, .goto 50]
noncomputable def am_B90_49 : List Instr := [.sipush (-1), .goto_w 50]
noncomputable def am_B90_50 : List Instr := [.invokeinterface 86 2, .invokeinterface 91 2, .ret 0]
noncomputable def am_t90 : List (Nat × List Instr) := [(0, am_B90_0), (13, am_B90_13), (36, am_B90_36), (49, am_B90_49), (50, am_B90_50)]
noncomputable def am_B91_0 : List Instr := [.iload 1, .ifCond .ge 13, .aload 0, .sipush (-1000004), .invokeinterface 18 2, .goto 14]
noncomputable def am_B91_13 : List Instr := [.iload 1, .goto_w 14]
noncomputable def am_B91_14 : List Instr := [.ret 0]
noncomputable def am_t91 : List (Nat × List Instr) := [(0, am_B91_0), (13, am_B91_13), (14, am_B91_14)]
noncomputable def am_B92_0 : List Instr := [.aload 0, .getfield 130, .aload 0, .getfield 128, .invokeinterface 81 2, .ldc 1, .istore 1, .goto_w 13]
noncomputable def am_B92_13 : List Instr := [.iload 1, .ldc 100, .if_icmp .gt 49, .aload 0, .getfield 130, .ldc 1, .invokeinterface 64 2, .aload 0, .getfield 130, .aload 0, .getfield 128, .invokeinterface 93 2, .ifCond .eq 43, .iload 1, .ret 0]
noncomputable def am_B92_43 : List Instr := [.iinc 1 1, .goto 13]
noncomputable def am_B92_49 : List Instr := [.aload 0, .sipush (-1000004), .invokeinterface 12 2, .ret 0]
noncomputable def am_t92 : List (Nat × List Instr) := [(0, am_B92_0), (13, am_B92_13), (43, am_B92_43), (49, am_B92_49)]
noncomputable def am_B93_0 : List Instr := [.ldc 0, .istore 2, .goto_w 2]
noncomputable def am_B93_2 : List Instr := [.iload 2, .aload 0, .getfield 103, .if_icmp .ge 33, .aload 0, .getfield 98, .iload 2, .iaload, .aload 1, .getfield 98, .iload 2, .iaload, .if_icmp .eq 27, .ldc 0, .ret 1]
noncomputable def am_B93_27 : List Instr := [.iinc 2 1, .goto 2]
noncomputable def am_B93_33 : List Instr := [.ldc 1, .ret 1]
noncomputable def am_t93 : List (Nat × List Instr) := [(0, am_B93_0), (2, am_B93_2), (27, am_B93_27), (33, am_B93_33)]
noncomputable def am_B94_0 : List Instr := [.aload 0, .getfield 160, .aload 0, .getfield 162, .invokeinterface 85 2, .aload 0, .invokeinterface 68 1, .ldc 1, .istore 1, .goto_w 17]
noncomputable def am_B94_17 : List Instr := [.iload 1, .ldc 100, .if_icmp .ge 40, .aload 0, .invokeinterface 95 1, .ifCond .ne 40, .aload 0, .invokeinterface 68 1, .iinc 1 1, .goto 17]
noncomputable def am_B94_40 : List Instr := [.aload 0, .aload 0, .aload 0, .invokeinterface 95 1, .ifCond .eq 53, .iload 1, .goto 54]
noncomputable def am_B94_53 : List Instr := [.sipush (-1), .goto_w 54]
noncomputable def am_B94_54 : List Instr := [.invokeinterface 86 2, .invokeinterface 91 2, .ret 0]
noncomputable def am_t94 : List (Nat × List Instr) := [(0, am_B94_0), (17, am_B94_17), (40, am_B94_40), (53, am_B94_53), (54, am_B94_54)]
noncomputable def am_B95_0 : List Instr := [.ldc 1, .istore 1, .ldc 0, .istore 2, .goto_w 4]
noncomputable def am_B95_4 : List Instr := [.iload 2, .aload 0, .getfield 160, .ldc 1, .iaload, .if_icmp .ge 53, .iload 1, .ifCond .eq 45, .aload 0, .getfield 160, .iload 2, .ldc 1, .invokeinterface 29 2, .iaload, .aload 0, .getfield 162, .iload 2, .ldc 1, .invokeinterface 29 2, .iaload, .if_icmp .ne 45, .ldc 1, .goto 46]
noncomputable def am_B95_45 : List Instr := [.ldc 0, .goto_w 46]
noncomputable def am_B95_46 : List Instr := [.istore 1, .iinc 2 1, .goto 4]
noncomputable def am_B95_53 : List Instr := [.iload 1, .ret 1]
noncomputable def am_t95 : List (Nat × List Instr) := [(0, am_B95_0), (4, am_B95_4), (45, am_B95_45), (46, am_B95_46), (53, am_B95_53)]
noncomputable def am_B96_0 : List Instr := [.aload 0, .iload 1, .invokeinterface 44 2, .ifCond .eq 21, .aload 0, .iload 2, .invokeinterface 44 2, .ifCond .eq 21, .iload 1, .iload 2, .if_icmp .ne 28, .goto_w 21]
noncomputable def am_B96_21 : List Instr := [.aload 0, .sipush (-1000001), .invokeinterface 12 2, .ret 0]
noncomputable def am_B96_28 : List Instr := [.aload 0, .getfield 130, .aload 0, .getfield 128, .invokeinterface 81 2, .ldc 0, .istore 3, .goto_w 41]
noncomputable def am_B96_41 : List Instr := [.iload 3, .ldc 100, .if_icmp .gt 91, .aload 0, .getfield 130, .invokeinterface 20 1, .aload 0, .getfield 130, .getfield 107, .iload 1, .iaload, .aload 0, .getfield 130, .getfield 107, .iload 2, .iaload, .if_icmp .ne 77, .iload 3, .ret 0]
noncomputable def am_B96_77 : List Instr := [.aload 0, .getfield 130, .ldc 1, .invokeinterface 64 2, .iinc 3 1, .goto 41]
noncomputable def am_B96_91 : List Instr := [.aload 0, .sipush (-1000004), .invokeinterface 12 2, .ret 0]
noncomputable def am_t96 : List (Nat × List Instr) := [(0, am_B96_0), (21, am_B96_21), (28, am_B96_28), (41, am_B96_41), (77, am_B96_77), (91, am_B96_91)]
noncomputable def am_B97_0 : List Instr := [.aload 0, .iload 1, .invokeinterface 50 2, .ifCond .eq 21, .aload 0, .iload 2, .invokeinterface 50 2, .ifCond .eq 21, .iload 1, .iload 2, .if_icmp .ne 28, .goto_w 21]
noncomputable def am_B97_21 : List Instr := [.aload 0, .sipush (-1000001), .invokeinterface 18 2, .ret 0]
noncomputable def am_B97_28 : List Instr := [.aload 0, .getfield 160, .aload 0, .getfield 162, .invokeinterface 85 2, .ldc 0, .istore 3, .goto_w 41]
noncomputable def am_B97_41 : List Instr := [.iload 3, .ldc 100, .if_icmp .ge 66, .aload 0, .iload 1, .iload 2, .invokeinterface 98 3, .ifCond .ne 66, .aload 0, .invokeinterface 68 1, .iinc 3 1, .goto 41]
noncomputable def am_B97_66 : List Instr := [.aload 0, .aload 0, .aload 0, .iload 1, .iload 2, .invokeinterface 98 3, .ifCond .eq 81, .iload 3, .goto 82]
noncomputable def am_B97_81 : List Instr := [.sipush (-1), .goto_w 82]
noncomputable def am_B97_82 : List Instr := [.invokeinterface 86 2, .invokeinterface 91 2, .ret 0]
noncomputable def am_t97 : List (Nat × List Instr) := [(0, am_B97_0), (21, am_B97_21), (28, am_B97_28), (41, am_B97_41), (66, am_B97_66), (81, am_B97_81), (82, am_B97_82)]
noncomputable def am_B98_0 : List Instr := [.aload 0, .invokeinterface 26 1, .aload 0, .getfield 165, .iload 1, .iaload, .aload 0, .getfield 165, .iload 2, .iaload, .if_icmp .ne 23, .ldc 1, .goto 24]
noncomputable def am_B98_23 : List Instr := [.ldc 0, .goto_w 24]
noncomputable def am_B98_24 : List Instr := [.ret 1]
noncomputable def am_t98 : List (Nat × List Instr) := [(0, am_B98_0), (23, am_B98_23), (24, am_B98_24)]
noncomputable def am_B99_0 : List Instr := [.iload 1, .invokeinterface 10 1, .ifCond .eq 26, .iload 2, .ldc 1, .ldc 100, .invokeinterface 11 3, .ifCond .eq 26, .iload 3, .ldc 0, .ldc 1, .invokeinterface 11 3, .ifCond .ne 33, .goto_w 26]
noncomputable def am_B99_26 : List Instr := [.aload 0, .sipush (-1000001), .invokeinterface 12 2, .ret 0]
noncomputable def am_B99_33 : List Instr := [.aload 0, .getfield 130, .aload 0, .getfield 128, .invokeinterface 81 2, .ldc 8, .istore 4, .ldc 0, .istore 5, .ldc 0, .istore 6, .goto_w 54]
noncomputable def am_B99_54 : List Instr := [.iload 6, .iload 2, .if_icmp .ge 106, .aload 0, .getfield 130, .ldc 1, .invokeinterface 64 2, .iload 4, .aload 0, .getfield 130, .getfield 108, .iload 1, .iaload, .invokeinterface 996 2, .istore 4, .iload 5, .aload 0, .getfield 130, .getfield 108, .iload 1, .iaload, .invokeinterface 997 2, .istore 5, .iinc 6 1, .goto 54]
noncomputable def am_B99_106 : List Instr := [.iload 3, .ifCond .ne 115, .iload 4, .goto 117]
noncomputable def am_B99_115 : List Instr := [.iload 5, .goto_w 117]
noncomputable def am_B99_117 : List Instr := [.ret 0]
noncomputable def am_t99 : List (Nat × List Instr) := [(0, am_B99_0), (26, am_B99_26), (33, am_B99_33), (54, am_B99_54), (106, am_B99_106), (115, am_B99_115), (117, am_B99_117)]
noncomputable def am_B100_0 : List Instr := [.iload 1, .invokeinterface 14 1, .ifCond .eq 26, .iload 2, .ldc 1, .ldc 100, .invokeinterface 15 3, .ifCond .eq 26, .iload 3, .ldc 0, .ldc 1, .invokeinterface 15 3, .ifCond .ne 33, .goto_w 26]
noncomputable def am_B100_26 : List Instr := [.aload 0, .sipush (-1000001), .invokeinterface 18 2, .ret 0]
noncomputable def am_B100_33 : List Instr := [.aload 0, .getfield 160, .aload 0, .getfield 162, .invokeinterface 85 2, .ldc 8, .istore 4, .ldc 0, .istore 5, .ldc 0, .istore 6, .goto_w 54]
noncomputable def am_B100_54 : List Instr := [.iload 6, .iload 2, .if_icmp .ge 102, .aload 0, .invokeinterface 26 1, .aload 0, .iload 1, .invokeinterface 36 2, .invokeinterface 33 1, .istore 7, .iload 4, .iload 7, .invokeinterface 996 2, .istore 4, .iload 5, .iload 7, .invokeinterface 997 2, .istore 5, .aload 0, .invokeinterface 68 1, .iinc 6 1, .goto 54]
noncomputable def am_B100_102 : List Instr := [.aload 0, .iload 3, .ifCond .ne 112, .iload 4, .goto 114]
noncomputable def am_B100_112 : List Instr := [.iload 5, .goto_w 114]
noncomputable def am_B100_114 : List Instr := [.invokeinterface 86 2, .ret 0]
noncomputable def am_t100 : List (Nat × List Instr) := [(0, am_B100_0), (26, am_B100_26), (33, am_B100_33), (54, am_B100_54), (102, am_B100_102), (112, am_B100_112), (114, am_B100_114)]
noncomputable def am_B101_0 : List Instr := [.aload 0, .iload 1, .iload 2, .ldc 1, .invokeinterface 102 4, .ret 0]
noncomputable def am_t101 : List (Nat × List Instr) := [(0, am_B101_0)]
noncomputable def am_B102_0 : List Instr := [.aload 0, .iload 1, .invokeinterface 44 2, .ifCond .eq 18, .iload 2, .ldc 0, .ldc 60, .invokeinterface 11 3, .ifCond .ne 25, .goto_w 18]
noncomputable def am_B102_18 : List Instr := [.aload 0, .sipush (-1000001), .invokeinterface 12 2, .ret 0]
noncomputable def am_B102_25 : List Instr := [.sipush (-1), .istore 4, .sipush (-1), .istore 5, .sipush (-1), .istore 6, .goto_w 34]
noncomputable def am_B102_34 : List Instr := [.iload 6, .ldc 8, .if_icmp .ge 123, .aload 0, .getfield 128, .iload 1, .iload 3, .iload 6, .invokeinterface 53 4, .ifCond .ne 58, .goto 117]
noncomputable def am_B102_58 : List Instr := [.aload 0, .getfield 130, .aload 0, .getfield 128, .invokeinterface 81 2, .aload 0, .getfield 130, .iload 1, .iload 3, .iload 6, .invokeinterface 54 4, .aload 0, .getfield 130, .iload 2, .invokeinterface 64 2, .aload 0, .getfield 130, .getfield 101, .iload 1, .iaload, .iload 5, .if_icmp .le 117, .iload 6, .istore 4, .aload 0, .getfield 130, .getfield 101, .iload 1, .iaload, .istore 5, .goto_w 117]
noncomputable def am_B102_117 : List Instr := [.iinc 6 1, .goto 34]
noncomputable def am_B102_123 : List Instr := [.iload 4, .ret 0]
noncomputable def am_t102 : List (Nat × List Instr) := [(0, am_B102_0), (18, am_B102_18), (25, am_B102_25), (34, am_B102_34), (58, am_B102_58), (117, am_B102_117), (123, am_B102_123)]
noncomputable def am_B103_0 : List Instr := [.aload 0, .iload 1, .iload 2, .invokeinterface 104 3, .ifCond .eq 22, .aload 0, .iload 1, .ldc 1, .ldc 0, .ldc 7, .iload 2, .invokeinterface 105 6, .goto 28]
noncomputable def am_B103_22 : List Instr := [.aload 0, .sipush (-1000001), .invokeinterface 18 2, .goto_w 28]
noncomputable def am_B103_28 : List Instr := [.ret 0]
noncomputable def am_t103 : List (Nat × List Instr) := [(0, am_B103_0), (22, am_B103_22), (28, am_B103_28)]
noncomputable def am_B104_0 : List Instr := [.aload 0, .iload 1, .invokeinterface 50 2, .ifCond .eq 22, .iload 2, .ldc 0, .ldc 60, .invokeinterface 15 3, .ifCond .eq 22, .ldc 1, .goto 23]
noncomputable def am_B104_22 : List Instr := [.ldc 0, .goto_w 23]
noncomputable def am_B104_23 : List Instr := [.ret 1]
noncomputable def am_t104 : List (Nat × List Instr) := [(0, am_B104_0), (22, am_B104_22), (23, am_B104_23)]
noncomputable def am_B105_0 : List Instr := [.aload 0, .iload 1, .iload 2, .invokeinterface 28 3, .istore 6, .iload 3, .istore 7, .sipush (-1), .istore 8, .iload 3, .istore 9, .goto_w 17]
noncomputable def am_B105_17 : List Instr := [.iload 9, .iload 4, .if_icmp .gt 95, .aload 0, .getfield 160, .iload 1, .iload 2, .invokeinterface 29 2, .iload 9, .iastore, .iload 2, .ldc 3, .if_icmp .ne 51, .iload 9, .iload 1, .if_icmp .ne 51, .sipush (-1), .goto 62]
noncomputable def am_B105_51 : List Instr := [.aload 0, .iload 1, .ldc 4, .invokeinterface 29 2, .iload 5, .invokeinterface 84 3, .goto_w 62]
noncomputable def am_B105_62 : List Instr := [.istore 10, .iload 10, .iload 8, .if_icmp .le 76, .iload 9, .goto 78]
noncomputable def am_B105_76 : List Instr := [.iload 7, .goto_w 78]
noncomputable def am_B105_78 : List Instr := [.istore 7, .iload 8, .iload 10, .invokeinterface 997 2, .istore 8, .iinc 9 1, .goto 17]
noncomputable def am_B105_95 : List Instr := [.aload 0, .getfield 160, .iload 1, .iload 2, .invokeinterface 29 2, .iload 6, .iastore, .iload 7, .ret 0]
noncomputable def am_t105 : List (Nat × List Instr) := [(0, am_B105_0), (17, am_B105_17), (51, am_B105_51), (62, am_B105_62), (76, am_B105_76), (78, am_B105_78), (95, am_B105_95)]
noncomputable def am_B106_0 : List Instr := [.aload 0, .iload 1, .iload 2, .ldc 0, .invokeinterface 102 4, .ret 0]
noncomputable def am_t106 : List (Nat × List Instr) := [(0, am_B106_0)]
noncomputable def am_B107_0 : List Instr := [.aload 0, .iload 1, .iload 2, .invokeinterface 104 3, .ifCond .eq 22, .aload 0, .iload 1, .ldc 0, .ldc 0, .ldc 6, .iload 2, .invokeinterface 105 6, .goto 28]
noncomputable def am_B107_22 : List Instr := [.aload 0, .sipush (-1000001), .invokeinterface 18 2, .goto_w 28]
noncomputable def am_B107_28 : List Instr := [.ret 0]
noncomputable def am_t107 : List (Nat × List Instr) := [(0, am_B107_0), (22, am_B107_22), (28, am_B107_28)]
noncomputable def am_B108_0 : List Instr := [.aload 0, .iload 1, .iload 2, .ldc 2, .invokeinterface 102 4, .ret 0]
noncomputable def am_t108 : List (Nat × List Instr) := [(0, am_B108_0)]
noncomputable def am_B109_0 : List Instr := [.aload 0, .iload 1, .iload 2, .invokeinterface 104 3, .ifCond .eq 22, .aload 0, .iload 1, .ldc 2, .ldc 0, .ldc 7, .iload 2, .invokeinterface 105 6, .goto 28]
noncomputable def am_B109_22 : List Instr := [.aload 0, .sipush (-1000001), .invokeinterface 18 2, .goto_w 28]
noncomputable def am_B109_28 : List Instr := [.ret 0]
noncomputable def am_t109 : List (Nat × List Instr) := [(0, am_B109_0), (22, am_B109_22), (28, am_B109_28)]
noncomputable def am_B110_0 : List Instr := [.aload 0, .iload 1, .iload 2, .ldc 3, .invokeinterface 102 4, .ret 0]
noncomputable def am_t110 : List (Nat × List Instr) := [(0, am_B110_0)]
noncomputable def am_B111_0 : List Instr := [.aload 0, .iload 1, .iload 2, .invokeinterface 104 3, .ifCond .eq 28, .aload 0, .iload 1, .ldc 3, .sipush (-1), .aload 0, .getfield 160, .ldc 1, .iaload, .ldc 1, .isub, .iload 2, .invokeinterface 105 6, .goto 34]
noncomputable def am_B111_28 : List Instr := [.aload 0, .sipush (-1000001), .invokeinterface 18 2, .goto_w 34]
noncomputable def am_B111_34 : List Instr := [.ret 0]
noncomputable def am_t111 : List (Nat × List Instr) := [(0, am_B111_0), (28, am_B111_28), (34, am_B111_34)]
noncomputable def am_B112_0 : List Instr := [.iload 1, .invokeinterface 10 1, .ifCond .eq 17, .iload 2, .ldc 0, .ldc 8, .invokeinterface 11 3, .ifCond .ne 24, .goto_w 17]
noncomputable def am_B112_17 : List Instr := [.aload 0, .sipush (-1000001), .invokeinterface 12 2, .ret 0]
noncomputable def am_B112_24 : List Instr := [.aload 0, .getfield 130, .aload 0, .getfield 128, .invokeinterface 81 2, .ldc 0, .istore 3, .goto_w 37]
noncomputable def am_B112_37 : List Instr := [.iload 3, .ldc 200, .if_icmp .gt 82, .aload 0, .getfield 130, .getfield 96, .iload 1, .iload 3, .iastore, .aload 0, .getfield 130, .invokeinterface 20 1, .aload 0, .getfield 130, .getfield 108, .iload 1, .iaload, .iload 2, .if_icmp .lt 76, .iload 3, .ret 0]
noncomputable def am_B112_76 : List Instr := [.iinc 3 1, .goto 37]
noncomputable def am_B112_82 : List Instr := [.aload 0, .sipush (-1000004), .invokeinterface 12 2, .ret 0]
noncomputable def am_t112 : List (Nat × List Instr) := [(0, am_B112_0), (17, am_B112_17), (24, am_B112_24), (37, am_B112_37), (76, am_B112_76), (82, am_B112_82)]
noncomputable def am_B113_0 : List Instr := [.iload 1, .invokeinterface 14 1, .ifCond .eq 17, .iload 2, .ldc 0, .ldc 8, .invokeinterface 15 3, .ifCond .ne 24, .goto_w 17]
noncomputable def am_B113_17 : List Instr := [.aload 0, .sipush (-1000001), .invokeinterface 18 2, .ret 0]
noncomputable def am_B113_24 : List Instr := [.aload 0, .getfield 160, .ldc 13, .iload 1, .iadd, .iaload, .istore 3, .sipush (-1), .istore 4, .ldc 200, .istore 5, .goto_w 42]
noncomputable def am_B113_42 : List Instr := [.iload 5, .ifCond .lt 82, .aload 0, .getfield 160, .ldc 13, .iload 1, .iadd, .iload 5, .iastore, .aload 0, .iload 1, .invokeinterface 114 2, .iload 2, .if_icmp .lt 72, .iload 5, .goto 74]
noncomputable def am_B113_72 : List Instr := [.iload 4, .goto_w 74]
noncomputable def am_B113_74 : List Instr := [.istore 4, .iinc 5 (-1), .goto 42]
noncomputable def am_B113_82 : List Instr := [.aload 0, .getfield 160, .ldc 13, .iload 1, .iadd, .iload 3, .iastore, .aload 0, .iload 4, .invokeinterface 91 2, .ret 0]
noncomputable def am_t113 : List (Nat × List Instr) := [(0, am_B113_0), (17, am_B113_17), (24, am_B113_24), (42, am_B113_42), (72, am_B113_72), (74, am_B113_74), (82, am_B113_82)]
noncomputable def am_B114_0 : List Instr := [.aload 0, .invokeinterface 26 1, .aload 0, .iload 1, .invokeinterface 36 2, .invokeinterface 33 1, .ret 0]
noncomputable def am_t114 : List (Nat × List Instr) := [(0, am_B114_0)]
noncomputable def am_B115_0 : List Instr := [.iload 1, .invokeinterface 10 1, .ifCond .eq 17, .iload 2, .ldc 0, .ldc 8, .invokeinterface 11 3, .ifCond .ne 24, .goto_w 17]
noncomputable def am_B115_17 : List Instr := [.aload 0, .sipush (-1000001), .invokeinterface 12 2, .ret 0]
noncomputable def am_B115_24 : List Instr := [.sipush (-1), .istore 3, .ldc 0, .istore 4, .goto_w 29]
noncomputable def am_B115_29 : List Instr := [.iload 4, .ldc 1, .aload 0, .getfield 128, .getfield 103, .ishl, .if_icmp .ge 91, .iload 3, .ifCond .lt 59, .iload 4, .invokeinterface 1 1, .iload 3, .invokeinterface 1 1, .if_icmp .ge 63, .goto_w 59]
noncomputable def am_B115_59 : List Instr := [.ldc 1, .goto 64]
noncomputable def am_B115_63 : List Instr := [.ldc 0, .goto_w 64]
noncomputable def am_B115_64 : List Instr := [.istore 5, .iload 5, .ifCond .eq 85, .aload 0, .iload 4, .iload 1, .invokeinterface 116 3, .iload 2, .if_icmp .lt 85, .iload 4, .istore 3, .goto_w 85]
noncomputable def am_B115_85 : List Instr := [.iinc 4 1, .goto 29]
noncomputable def am_B115_91 : List Instr := [.iload 3, .ifCond .ge 104, .aload 0, .sipush (-1000004), .invokeinterface 12 2, .goto 105]
noncomputable def am_B115_104 : List Instr := [.iload 3, .goto_w 105]
noncomputable def am_B115_105 : List Instr := [.ret 0]
noncomputable def am_t115 : List (Nat × List Instr) := [(0, am_B115_0), (17, am_B115_17), (24, am_B115_24), (29, am_B115_29), (59, am_B115_59), (63, am_B115_63), (64, am_B115_64), (85, am_B115_85), (91, am_B115_91), (104, am_B115_104), (105, am_B115_105)]
noncomputable def am_B116_0 : List Instr := [.aload 0, .getfield 130, .aload 0, .getfield 128, .invokeinterface 81 2, .ldc 0, .istore 3, .goto_w 13]
noncomputable def am_B116_13 : List Instr := [.iload 3, .aload 0, .getfield 130, .getfield 103, .if_icmp .ge 49, .iload 1, .iload 3, .ishr, .ldc 1, .iand, .ldc 1, .if_icmp .ne 43, .aload 0, .getfield 130, .getfield 98, .iload 3, .iload 2, .iastore, .goto_w 43]
noncomputable def am_B116_43 : List Instr := [.iinc 3 1, .goto 13]
noncomputable def am_B116_49 : List Instr := [.aload 0, .getfield 130, .invokeinterface 20 1, .aload 0, .getfield 130, .getfield 108, .iload 2, .iaload, .ret 0]
noncomputable def am_t116 : List (Nat × List Instr) := [(0, am_B116_0), (13, am_B116_13), (43, am_B116_43), (49, am_B116_49)]
noncomputable def am_B117_0 : List Instr := [.iload 1, .invokeinterface 14 1, .ifCond .eq 17, .iload 2, .ldc 0, .ldc 8, .invokeinterface 15 3, .ifCond .ne 24, .goto_w 17]
noncomputable def am_B117_17 : List Instr := [.aload 0, .sipush (-1000001), .invokeinterface 18 2, .ret 0]
noncomputable def am_B117_24 : List Instr := [.sipush (-1), .istore 3, .ldc 0, .istore 4, .goto_w 29]
noncomputable def am_B117_29 : List Instr := [.iload 4, .ldc 1, .aload 0, .getfield 160, .ldc 1, .iaload, .ishl, .if_icmp .ge 94, .iload 3, .ifCond .lt 58, .iload 4, .invokeinterface 33 1, .iload 3, .invokeinterface 33 1, .if_icmp .ge 62, .goto_w 58]
noncomputable def am_B117_58 : List Instr := [.ldc 1, .goto 63]
noncomputable def am_B117_62 : List Instr := [.ldc 0, .goto_w 63]
noncomputable def am_B117_63 : List Instr := [.istore 5, .iload 5, .ifCond .eq 86, .aload 0, .iload 4, .iload 1, .invokeinterface 118 3, .iload 2, .if_icmp .lt 86, .iload 4, .goto 87]
noncomputable def am_B117_86 : List Instr := [.iload 3, .goto_w 87]
noncomputable def am_B117_87 : List Instr := [.istore 3, .iinc 4 1, .goto 29]
noncomputable def am_B117_94 : List Instr := [.aload 0, .iload 3, .invokeinterface 91 2, .ret 0]
noncomputable def am_t117 : List (Nat × List Instr) := [(0, am_B117_0), (17, am_B117_17), (24, am_B117_24), (29, am_B117_29), (58, am_B117_58), (62, am_B117_62), (63, am_B117_63), (86, am_B117_86), (87, am_B117_87), (94, am_B117_94)]
noncomputable def am_B118_0 : List Instr := [.aload 0, .getfield 160, .aload 0, .getfield 162, .invokeinterface 85 2, .ldc 0, .istore 3, .goto_w 13]
noncomputable def am_B118_13 : List Instr := [.iload 3, .aload 0, .getfield 160, .ldc 1, .iaload, .if_icmp .ge 57, .aload 0, .getfield 160, .iload 3, .ldc 1, .invokeinterface 29 2, .iload 1, .iload 3, .invokeinterface 119 2, .ifCond .eq 44, .iload 2, .goto 50]
noncomputable def am_B118_44 : List Instr := [.aload 0, .iload 3, .ldc 1, .invokeinterface 28 3, .goto_w 50]
noncomputable def am_B118_50 : List Instr := [.iastore, .iinc 3 1, .goto 13]
noncomputable def am_B118_57 : List Instr := [.aload 0, .aload 0, .iload 2, .invokeinterface 114 2, .invokeinterface 86 2, .ret 0]
noncomputable def am_t118 : List (Nat × List Instr) := [(0, am_B118_0), (13, am_B118_13), (44, am_B118_44), (50, am_B118_50), (57, am_B118_57)]
noncomputable def am_B119_0 : List Instr := [.iload 0, .iload 1, .ishr, .ldc 1, .iand, .ldc 1, .if_icmp .ne 13, .ldc 1, .goto 14]
noncomputable def am_B119_13 : List Instr := [.ldc 0, .goto_w 14]
noncomputable def am_B119_14 : List Instr := [.ret 1]
noncomputable def am_t119 : List (Nat × List Instr) := [(0, am_B119_0), (13, am_B119_13), (14, am_B119_14)]
noncomputable def am_B120_0 : List Instr := [.aload 0, .getfield 128, .getfield 103, .ifCond .ne 17, .aload 0, .sipush (-1000004), .invokeinterface 12 2, .ret 0]
noncomputable def am_B120_17 : List Instr := [.ldc 0, .istore 1, .sipush (-1), .istore 2, .ldc 0, .istore 3, .goto_w 23]
noncomputable def am_B120_23 : List Instr := [.iload 3, .aload 0, .getfield 128, .getfield 103, .if_icmp .ge 99, .aload 0, .getfield 130, .aload 0, .getfield 128, .invokeinterface 81 2, .aload 0, .getfield 130, .getfield 98, .iload 3, .sipush (-1), .iastore, .aload 0, .getfield 130, .ldc 1, .invokeinterface 64 2, .aload 0, .getfield 130, .invokeinterface 65 1, .aload 0, .getfield 130, .getfield 101, .iload 3, .iaload, .isub, .istore 4, .iload 4, .iload 2, .if_icmp .le 93, .iload 3, .istore 1, .iload 4, .istore 2, .goto_w 93]
noncomputable def am_B120_93 : List Instr := [.iinc 3 1, .goto 23]
noncomputable def am_B120_99 : List Instr := [.iload 1, .ret 0]
noncomputable def am_t120 : List (Nat × List Instr) := [(0, am_B120_0), (17, am_B120_17), (23, am_B120_23), (93, am_B120_93), (99, am_B120_99)]
noncomputable def am_B121_0 : List Instr := [.sipush (-1), .istore 1, .sipush (-1), .istore 2, .ldc 0, .istore 3, .goto_w 6]
noncomputable def am_B121_6 : List Instr := [.iload 3, .aload 0, .getfield 160, .ldc 1, .iaload, .if_icmp .ge 48, .aload 0, .iload 3, .invokeinterface 122 2, .istore 4, .iload 4, .iload 2, .if_icmp .le 33, .iload 3, .goto 34]
noncomputable def am_B121_33 : List Instr := [.iload 1, .goto_w 34]
noncomputable def am_B121_34 : List Instr := [.istore 1, .iload 2, .iload 4, .invokeinterface 997 2, .istore 2, .iinc 3 1, .goto 6]
noncomputable def am_B121_48 : List Instr := [.aload 0, .iload 1, .invokeinterface 91 2, .ret 0]
noncomputable def am_t121 : List (Nat × List Instr) := [(0, am_B121_0), (6, am_B121_6), (33, am_B121_33), (34, am_B121_34), (48, am_B121_48)]
noncomputable def am_B122_0 : List Instr := [.aload 0, .getfield 160, .aload 0, .getfield 162, .invokeinterface 85 2, .aload 0, .iload 1, .putfield 167, .aload 0, .invokeinterface 68 1, .aload 0, .sipush (-1), .putfield 167, .aload 0, .aload 0, .invokeinterface 69 1, .aload 0, .iload 1, .ldc 4, .invokeinterface 28 3, .isub, .invokeinterface 86 2, .ret 0]
noncomputable def am_t122 : List (Nat × List Instr) := [(0, am_B122_0)]
noncomputable def am_B123_0 : List Instr := [.iload 1, .ldc 0, .ldc 40, .invokeinterface 11 3, .ifCond .ne 17, .aload 0, .sipush (-1000001), .invokeinterface 12 2, .ret 0]
noncomputable def am_B123_17 : List Instr := [.aload 0, .getfield 128, .getfield 103, .ldc 2, .if_icmp .ge 35, .aload 0, .sipush (-1000004), .invokeinterface 12 2, .ret 0]
noncomputable def am_B123_35 : List Instr := [.ldc 0, .istore 2, .sipush (-1), .istore 3, .ldc 0, .istore 4, .goto_w 42]
noncomputable def am_B123_42 : List Instr := [.iload 4, .aload 0, .getfield 128, .getfield 103, .if_icmp .ge 113, .iload 4, .ldc 1, .iadd, .istore 5, .goto_w 60]
noncomputable def am_B123_60 : List Instr := [.iload 5, .aload 0, .getfield 128, .getfield 103, .if_icmp .ge 107, .aload 0, .iload 4, .iload 5, .iload 1, .invokeinterface 124 4, .istore 6, .iload 6, .iload 3, .if_icmp .le 101, .ldc 8, .iload 4, .imul, .iload 5, .iadd, .istore 2, .iload 6, .istore 3, .goto_w 101]
noncomputable def am_B123_101 : List Instr := [.iinc 5 1, .goto 60]
noncomputable def am_B123_107 : List Instr := [.iinc 4 1, .goto 42]
noncomputable def am_B123_113 : List Instr := [.iload 2, .ret 0]
noncomputable def am_t123 : List (Nat × List Instr) := [(0, am_B123_0), (17, am_B123_17), (35, am_B123_35), (42, am_B123_42), (60, am_B123_60), (101, am_B123_101), (107, am_B123_107), (113, am_B123_113)]
noncomputable def am_B124_0 : List Instr := [.aload 0, .getfield 130, .aload 0, .getfield 128, .invokeinterface 81 2, .aload 0, .getfield 130, .getfield 98, .iload 1, .aload 0, .getfield 128, .getfield 98, .iload 2, .iaload, .iastore, .aload 0, .getfield 130, .getfield 98, .iload 2, .aload 0, .getfield 128, .getfield 98, .iload 1, .iaload, .iastore, .aload 0, .getfield 130, .iload 3, .invokeinterface 64 2, .aload 0, .getfield 130, .invokeinterface 65 1, .ret 0]
noncomputable def am_t124 : List (Nat × List Instr) := [(0, am_B124_0)]
noncomputable def am_B125_0 : List Instr := [.iload 1, .ldc 0, .ldc 40, .invokeinterface 15 3, .ifCond .ne 17, .aload 0, .sipush (-1000001), .invokeinterface 18 2, .ret 0]
noncomputable def am_B125_17 : List Instr := [.sipush (-1), .istore 2, .sipush (-1), .istore 3, .ldc 0, .istore 4, .goto_w 24]
noncomputable def am_B125_24 : List Instr := [.iload 4, .aload 0, .getfield 160, .ldc 1, .iaload, .if_icmp .ge 101, .iload 4, .ldc 1, .iadd, .istore 5, .goto_w 41]
noncomputable def am_B125_41 : List Instr := [.iload 5, .aload 0, .getfield 160, .ldc 1, .iaload, .if_icmp .ge 95, .aload 0, .iload 4, .iload 5, .iload 1, .invokeinterface 126 4, .istore 6, .iload 6, .iload 3, .if_icmp .le 80, .ldc 8, .iload 4, .imul, .iload 5, .iadd, .goto 81]
noncomputable def am_B125_80 : List Instr := [.iload 2, .goto_w 81]
noncomputable def am_B125_81 : List Instr := [.istore 2, .iload 3, .iload 6, .invokeinterface 997 2, .istore 3, .iinc 5 1, .goto 41]
noncomputable def am_B125_95 : List Instr := [.iinc 4 1, .goto 24]
noncomputable def am_B125_101 : List Instr := [.aload 0, .iload 2, .invokeinterface 91 2, .ret 0]
noncomputable def am_t125 : List (Nat × List Instr) := [(0, am_B125_0), (17, am_B125_17), (24, am_B125_24), (41, am_B125_41), (80, am_B125_80), (81, am_B125_81), (95, am_B125_95), (101, am_B125_101)]
noncomputable def am_B126_0 : List Instr := [.aload 0, .getfield 160, .aload 0, .getfield 162, .invokeinterface 85 2, .aload 0, .iload 1, .ldc 1, .invokeinterface 29 2, .aload 0, .iload 2, .ldc 1, .invokeinterface 28 3, .invokeinterface 17 3, .istore 4, .aload 0, .getfield 160, .iload 2, .ldc 1, .invokeinterface 29 2, .iload 4, .iastore, .aload 0, .iload 3, .invokeinterface 67 2, .aload 0, .aload 0, .invokeinterface 69 1, .invokeinterface 86 2, .ret 0]
noncomputable def am_t126 : List (Nat × List Instr) := [(0, am_B126_0)]
noncomputable def am_B127_0 : List Instr := [.aload 0, .iload 1, .iload 2, .ldc 1, .invokeinterface 128 4, .ret 0]
noncomputable def am_t127 : List (Nat × List Instr) := [(0, am_B127_0)]
noncomputable def am_B128_0 : List Instr := [.iload 1, .invokeinterface 129 1, .ifCond .ne 14, .aload 0, .sipush (-1000001), .invokeinterface 12 2, .ret 0]
noncomputable def am_B128_14 : List Instr := [.aload 0, .getfield 132, .iload 1, .aaload, .invokeinterface 130 1, .ifCond .eq 33, .aload 0, .sipush (-1000006), .invokeinterface 12 2, .ret 0]
noncomputable def am_B128_33 : List Instr := [.aload 0, .iload 2, .invokeinterface 44 2, .ifCond .ne 48, .aload 0, .sipush (-1000001), .invokeinterface 12 2, .ret 0]
noncomputable def am_B128_48 : List Instr := [.ldc 0, .istore 4, .ldc 0, .istore 5, .goto_w 54]
noncomputable def am_B128_54 : List Instr := [.iload 5, .ldc 8, .if_icmp .ge 107, .aload 0, .getfield 128, .iload 2, .iload 3, .iload 5, .invokeinterface 53 4, .ifCond .eq 101, .aload 0, .aload 0, .getfield 132, .iload 1, .aaload, .iload 2, .iload 3, .iload 5, .invokeinterface 131 5, .ifCond .eq 101, .iload 4, .ldc 1, .iload 5, .ishl, .ior, .istore 4, .goto_w 101]
noncomputable def am_B128_101 : List Instr := [.iinc 5 1, .goto 54]
noncomputable def am_B128_107 : List Instr := [.iload 4, .ret 0]
noncomputable def am_t128 : List (Nat × List Instr) := [(0, am_B128_0), (14, am_B128_14), (33, am_B128_33), (48, am_B128_48), (54, am_B128_54), (101, am_B128_101), (107, am_B128_107)]
noncomputable def am_B129_0 : List Instr := [.iload 0, .ldc 0, .ldc 3, .invokeinterface 11 3, .ret 1]
noncomputable def am_t129 : List (Nat × List Instr) := [(0, am_B129_0)]
noncomputable def am_B130_0 : List Instr := [.aload 0, .getfield 1, .ifCond .ne 11, .ldc 1, .goto 12]
noncomputable def am_B130_11 : List Instr := [.ldc 0, .goto_w 12]
noncomputable def am_B130_12 : List Instr := [.ret 1]
noncomputable def am_t130 : List (Nat × List Instr) := [(0, am_B130_0), (11, am_B130_11), (12, am_B130_12)]
noncomputable def am_B131_0 : List Instr := [.aload 0, .getfield 130, .aload 0, .getfield 128, .invokeinterface 81 2, .aload 0, .getfield 130, .iload 2, .iload 3, .iload 4, .invokeinterface 54 4, .ldc 0, .istore 5, .goto_w 25]
noncomputable def am_B131_25 : List Instr := [.iload 5, .aload 1, .getfield 2, .if_icmp .ge 79, .aload 1, .getfield 0, .iload 5, .iaload, .istore 6, .iload 6, .sipush (-1), .if_icmp .eq 65, .iload 6, .aload 0, .getfield 130, .getfield 101, .iload 2, .iaload, .if_icmp .eq 65, .ldc 0, .ret 1]
noncomputable def am_B131_65 : List Instr := [.aload 0, .getfield 130, .ldc 1, .invokeinterface 64 2, .iinc 5 1, .goto 25]
noncomputable def am_B131_79 : List Instr := [.ldc 1, .ret 1]
noncomputable def am_t131 : List (Nat × List Instr) := [(0, am_B131_0), (25, am_B131_25), (65, am_B131_65), (79, am_B131_79)]
noncomputable def am_B132_0 : List Instr := [.aload 0, .iload 1, .invokeinterface 133 2, .ifCond .eq 18, .aload 0, .aload 0, .iload 1, .invokeinterface 133 2, .invokeinterface 18 2, .ret 0]
noncomputable def am_B132_18 : List Instr := [.aload 0, .iload 2, .invokeinterface 50 2, .ifCond .eq 38, .aload 0, .iload 1, .iload 2, .ldc 1, .ldc 8, .invokeinterface 135 5, .goto 44]
noncomputable def am_B132_38 : List Instr := [.aload 0, .sipush (-1000001), .invokeinterface 18 2, .goto_w 44]
noncomputable def am_B132_44 : List Instr := [.ret 0]
noncomputable def am_t132 : List (Nat × List Instr) := [(0, am_B132_0), (18, am_B132_18), (38, am_B132_38), (44, am_B132_44)]
noncomputable def am_B133_0 : List Instr := [.iload 1, .invokeinterface 134 1, .ifCond .ne 12, .sipush (-1000001), .goto 27]
noncomputable def am_B133_12 : List Instr := [.aload 0, .getfield 179, .iload 1, .iaload, .ifCond .ne 26, .sipush (-1000006), .goto 27]
noncomputable def am_B133_26 : List Instr := [.ldc 0, .goto_w 27]
noncomputable def am_B133_27 : List Instr := [.ret 0]
noncomputable def am_t133 : List (Nat × List Instr) := [(0, am_B133_0), (12, am_B133_12), (26, am_B133_26), (27, am_B133_27)]
noncomputable def am_B134_0 : List Instr := [.iload 0, .ldc 0, .ldc 3, .invokeinterface 15 3, .ret 1]
noncomputable def am_t134 : List (Nat × List Instr) := [(0, am_B134_0)]
noncomputable def am_B135_0 : List Instr := [.aload 0, .iload 2, .iload 3, .invokeinterface 28 3, .istore 5, .ldc 0, .istore 6, .ldc 0, .istore 7, .goto_w 14]
noncomputable def am_B135_14 : List Instr := [.iload 7, .iload 4, .if_icmp .ge 61, .aload 0, .getfield 160, .iload 2, .iload 3, .invokeinterface 29 2, .iload 7, .iastore, .iload 6, .aload 0, .iload 1, .iload 2, .invokeinterface 136 3, .ifCond .eq 51, .ldc 1, .iload 7, .ishl, .goto 52]
noncomputable def am_B135_51 : List Instr := [.ldc 0, .goto_w 52]
noncomputable def am_B135_52 : List Instr := [.ior, .istore 6, .iinc 7 1, .goto 14]
noncomputable def am_B135_61 : List Instr := [.aload 0, .getfield 160, .iload 2, .iload 3, .invokeinterface 29 2, .iload 5, .iastore, .iload 6, .ret 0]
noncomputable def am_t135 : List (Nat × List Instr) := [(0, am_B135_0), (14, am_B135_14), (51, am_B135_51), (52, am_B135_52), (61, am_B135_61)]
noncomputable def am_B136_0 : List Instr := [.aload 0, .getfield 160, .aload 0, .getfield 162, .invokeinterface 85 2, .ldc 1, .istore 3, .ldc 0, .istore 4, .goto_w 16]
noncomputable def am_B136_16 : List Instr := [.iload 4, .aload 0, .getfield 180, .iload 1, .iaload, .if_icmp .ge 78, .iload 3, .ifCond .eq 78, .aload 0, .getfield 181, .ldc 40, .iload 1, .imul, .iload 4, .iadd, .iaload, .istore 5, .iload 5, .sipush (-1), .if_icmp .eq 62, .iload 5, .aload 0, .iload 2, .ldc 4, .invokeinterface 28 3, .if_icmp .ne 66, .goto_w 62]
noncomputable def am_B136_62 : List Instr := [.ldc 1, .goto 67]
noncomputable def am_B136_66 : List Instr := [.ldc 0, .goto_w 67]
noncomputable def am_B136_67 : List Instr := [.istore 3, .aload 0, .invokeinterface 68 1, .iinc 4 1, .goto 16]
noncomputable def am_B136_78 : List Instr := [.aload 0, .getfield 162, .aload 0, .getfield 160, .invokeinterface 85 2, .iload 3, .ret 1]
noncomputable def am_t136 : List (Nat × List Instr) := [(0, am_B136_0), (16, am_B136_16), (62, am_B136_62), (66, am_B136_66), (67, am_B136_67), (78, am_B136_78)]
noncomputable def am_B137_0 : List Instr := [.aload 0, .iload 1, .iload 2, .ldc 0, .invokeinterface 128 4, .ret 0]
noncomputable def am_t137 : List (Nat × List Instr) := [(0, am_B137_0)]
noncomputable def am_B138_0 : List Instr := [.aload 0, .iload 1, .invokeinterface 133 2, .ifCond .eq 18, .aload 0, .aload 0, .iload 1, .invokeinterface 133 2, .invokeinterface 18 2, .ret 0]
noncomputable def am_B138_18 : List Instr := [.aload 0, .iload 2, .invokeinterface 50 2, .ifCond .eq 38, .aload 0, .iload 1, .iload 2, .ldc 0, .ldc 7, .invokeinterface 135 5, .goto 44]
noncomputable def am_B138_38 : List Instr := [.aload 0, .sipush (-1000001), .invokeinterface 18 2, .goto_w 44]
noncomputable def am_B138_44 : List Instr := [.ret 0]
noncomputable def am_t138 : List (Nat × List Instr) := [(0, am_B138_0), (18, am_B138_18), (38, am_B138_38), (44, am_B138_44)]
noncomputable def am_B139_0 : List Instr := [.iload 1, .ldc 1, .ldc 20, .invokeinterface 11 3, .ifCond .ne 17, .aload 0, .sipush (-1000001), .invokeinterface 12 2, .ret 0]
noncomputable def am_B139_17 : List Instr := [.aload 0, .getfield 128, .getfield 104, .ldc 99999, .iload 1, .isub, .if_icmp .le 38, .aload 0, .sipush (-1000005), .invokeinterface 12 2, .ret 0]
noncomputable def am_B139_38 : List Instr := [.ldc 0, .istore 2, .goto_w 40]
noncomputable def am_B139_40 : List Instr := [.iload 2, .iload 1, .if_icmp .ge 100, .aload 0, .getfield 128, .invokeinterface 140 1, .ldc 8, .irem, .istore 3, .aload 0, .getfield 128, .invokeinterface 140 1, .ldc 100, .irem, .istore 4, .iload 3, .invokeinterface 10 1, .ifCond .eq 86, .aload 0, .getfield 128, .getfield 96, .iload 3, .iload 4, .iastore, .goto_w 86]
noncomputable def am_B139_86 : List Instr := [.aload 0, .getfield 128, .ldc 1, .invokeinterface 64 2, .iinc 2 1, .goto 40]
noncomputable def am_B139_100 : List Instr := [.aload 0, .getfield 128, .invokeinterface 65 1, .ret 0]
noncomputable def am_t139 : List (Nat × List Instr) := [(0, am_B139_0), (17, am_B139_17), (38, am_B139_38), (40, am_B139_40), (86, am_B139_86), (100, am_B139_100)]
noncomputable def am_B140_0 : List Instr := [.aload 0, .aload 0, .getfield 105, .ldc 1103515245, .imul, .ldc 12345, .iadd, .putfield 105, .aload 0, .getfield 105, .ldc 8, .iushr, .ret 0]
noncomputable def am_t140 : List (Nat × List Instr) := [(0, am_B140_0)]
noncomputable def am_B141_0 : List Instr := [.iload 1, .ldc 1, .ldc 20, .invokeinterface 15 3, .ifCond .ne 17, .aload 0, .sipush (-1000001), .invokeinterface 18 2, .ret 0]
noncomputable def am_B141_17 : List Instr := [.aload 0, .getfield 160, .ldc 0, .iaload, .iload 1, .iadd, .ldc 99999, .if_icmp .le 37, .aload 0, .sipush (-1000005), .invokeinterface 18 2, .ret 0]
noncomputable def am_B141_37 : List Instr := [.ldc 0, .istore 2, .goto_w 39]
noncomputable def am_B141_39 : List Instr := [.iload 2, .iload 1, .if_icmp .ge 78, .aload 0, .invokeinterface 142 1, .ldc 8, .irem, .istore 3, .aload 0, .getfield 160, .ldc 13, .iload 3, .iadd, .aload 0, .invokeinterface 142 1, .ldc 100, .irem, .iastore, .aload 0, .invokeinterface 68 1, .iinc 2 1, .goto 39]
noncomputable def am_B141_78 : List Instr := [.aload 0, .invokeinterface 69 1, .ret 0]
noncomputable def am_t141 : List (Nat × List Instr) := [(0, am_B141_0), (17, am_B141_17), (37, am_B141_37), (39, am_B141_39), (78, am_B141_78)]
noncomputable def am_B142_0 : List Instr := [.aload 0, .getfield 160, .ldc 2, .aload 0, .getfield 160, .ldc 2, .iaload, .ldc 1103515245, .imul, .ldc 12345, .iadd, .iastore, .aload 0, .getfield 160, .ldc 2, .iaload, .ldc 8, .iushr, .ret 0]
noncomputable def am_t142 : List (Nat × List Instr) := [(0, am_B142_0)]
noncomputable def am_B143_0 : List Instr := [.iload 1, .ldc 0, .ldc 20, .invokeinterface 11 3, .ifCond .eq 19, .iload 2, .ldc 0, .ldc 1, .invokeinterface 11 3, .ifCond .ne 27, .goto_w 19]
noncomputable def am_B143_19 : List Instr := [.aload 0, .sipush (-1000001), .invokeinterface 12 2, .i2l, .ret 4]
noncomputable def am_B143_27 : List Instr := [.aload 0, .getfield 128, .invokeinterface 20 1, .ldc 8, .aload 0, .getfield 128, .invokeinterface 72 1, .invokeinterface 1 1, .isub, .istore 3, .ldc 8, .istore 4, .ldc 0, .istore 5, .goto_w 55]
noncomputable def am_B143_55 : List Instr := [.iload 5, .ldc 3, .if_icmp .ge 83, .iload 3, .ldc 2, .irem, .ifCond .ne 83, .iload 3, .ldc 2, .idiv, .istore 3, .iload 4, .ldc 2, .idiv, .istore 4, .iinc 5 1, .goto 55]
noncomputable def am_B143_83 : List Instr := [.iload 2, .ifCond .ne 91, .iload 3, .goto 93]
noncomputable def am_B143_91 : List Instr := [.iload 4, .goto_w 93]
noncomputable def am_B143_93 : List Instr := [.iload 1, .invokeinterface 144 2, .ret 4]
noncomputable def am_t143 : List (Nat × List Instr) := [(0, am_B143_0), (19, am_B143_19), (27, am_B143_27), (55, am_B143_55), (83, am_B143_83), (91, am_B143_91), (93, am_B143_93)]
noncomputable def am_B144_0 : List Instr := [.lconst 1, .lstore 2, .ldc 0, .istore 4, .goto_w 5]
noncomputable def am_B144_5 : List Instr := [.iload 4, .iload 1, .if_icmp .ge 22, .lload 2, .iload 0, .i2l, .lmul, .lstore 2, .iinc 4 1, .goto 5]
noncomputable def am_B144_22 : List Instr := [.lload 2, .ret 4]
noncomputable def am_t144 : List (Nat × List Instr) := [(0, am_B144_0), (5, am_B144_5), (22, am_B144_22)]
noncomputable def am_B145_0 : List Instr := [.iload 1, .ldc 0, .ldc 20, .invokeinterface 15 3, .ifCond .eq 19, .iload 2, .ldc 0, .ldc 1, .invokeinterface 15 3, .ifCond .ne 27, .goto_w 19]
noncomputable def am_B145_19 : List Instr := [.aload 0, .sipush (-1000001), .invokeinterface 18 2, .i2l, .ret 4]
noncomputable def am_B145_27 : List Instr := [.ldc 8, .aload 0, .invokeinterface 77 1, .invokeinterface 33 1, .isub, .istore 3, .ldc 8, .istore 4, .iload 3, .istore 5, .goto_w 45]
noncomputable def am_B145_45 : List Instr := [.iload 5, .ifCond .eq 68, .iload 4, .iload 5, .irem, .istore 6, .iload 5, .istore 4, .iload 6, .istore 5, .goto 45]
noncomputable def am_B145_68 : List Instr := [.lconst 1, .lstore 6, .ldc 0, .istore 8, .goto_w 74]
noncomputable def am_B145_74 : List Instr := [.iload 8, .iload 1, .if_icmp .ge 105, .lload 6, .iload 2, .ifCond .ne 90, .iload 3, .goto 92]
noncomputable def am_B145_90 : List Instr := [.ldc 8, .goto_w 92]
noncomputable def am_B145_92 : List Instr := [.iload 4, .idiv, .i2l, .lmul, .lstore 6, .iinc 8 1, .goto 74]
noncomputable def am_B145_105 : List Instr := [.lload 6, .ret 4]
noncomputable def am_t145 : List (Nat × List Instr) := [(0, am_B145_0), (19, am_B145_19), (27, am_B145_27), (45, am_B145_45), (68, am_B145_68), (74, am_B145_74), (90, am_B145_90), (92, am_B145_92), (105, am_B145_105)]
noncomputable def am_B146_0 : List Instr := [.aload 0, .getfield 128, .getfield 105, .istore 2, .aload 0, .getfield 128, .iload 1, .putfield 105, .iload 2, .ret 0]
noncomputable def am_t146 : List (Nat × List Instr) := [(0, am_B146_0)]
noncomputable def am_B147_0 : List Instr := [.aload 0, .ldc 2, .iload 1, .invokeinterface 17 3, .ret 0]
noncomputable def am_t147 : List (Nat × List Instr) := [(0, am_B147_0)]
noncomputable def am_B148_0 : List Instr := [.iload 2, .ldc 1, .ldc 4, .invokeinterface 11 3, .ifCond .ne 16, .aload 0, .sipush (-1000001), .invokeinterface 12 2, .ret 0]
noncomputable def am_B148_16 : List Instr := [.aload 0, .getfield 131, .getfield 64, .getfield 33, .iload 2, .iadd, .ldc 120, .if_icmp .le 40, .aload 0, .sipush (-1000002), .invokeinterface 12 2, .ret 0]
noncomputable def am_B148_40 : List Instr := [.iload 2, .ldc 1, .isub, .istore 3, .goto_w 44]
noncomputable def am_B148_44 : List Instr := [.iload 3, .ifCond .lt 74, .aload 0, .getfield 131, .getfield 64, .iload 1, .ldc 8, .iload 3, .imul, .iushr, .ldc 255, .iand, .invokeinterface 149 2, .iinc 3 (-1), .goto 44]
noncomputable def am_B148_74 : List Instr := [.aload 0, .getfield 131, .getfield 64, .getfield 33, .ret 0]
noncomputable def am_t148 : List (Nat × List Instr) := [(0, am_B148_0), (16, am_B148_16), (40, am_B148_40), (44, am_B148_44), (74, am_B148_74)]
noncomputable def am_B149_0 : List Instr := [.aload 0, .getfield 33, .ldc 120, .if_icmp .ge 29, .aload 0, .getfield 32, .aload 0, .getfield 33, .iload 1, .iastore, .aload 0, .dup, .getfield 33, .ldc 1, .iadd, .putfield 33, .goto_w 29]
noncomputable def am_B149_29 : List Instr := [.return_]
noncomputable def am_t149 : List (Nat × List Instr) := [(0, am_B149_0), (29, am_B149_29)]
noncomputable def am_B150_0 : List Instr := [.iload 2, .ldc 1, .ldc 4, .invokeinterface 15 3, .ifCond .ne 16, .aload 0, .sipush (-1000001), .invokeinterface 18 2, .ret 0]
noncomputable def am_B150_16 : List Instr := [.aload 0, .getfield 169, .iload 2, .iadd, .ldc 120, .if_icmp .le 34, .aload 0, .sipush (-1000002), .invokeinterface 18 2, .ret 0]
noncomputable def am_B150_34 : List Instr := [.iload 2, .ldc 1, .isub, .istore 3, .goto_w 38]
noncomputable def am_B150_38 : List Instr := [.iload 3, .ifCond .lt 77, .aload 0, .getfield 168, .aload 0, .getfield 169, .iload 1, .ldc 8, .iload 3, .imul, .ishr, .ldc 255, .iand, .iastore, .aload 0, .dup, .getfield 169, .ldc 1, .iadd, .putfield 169, .iinc 3 (-1), .goto 38]
noncomputable def am_B150_77 : List Instr := [.aload 0, .getfield 169, .ret 0]
noncomputable def am_t150 : List (Nat × List Instr) := [(0, am_B150_0), (16, am_B150_16), (34, am_B150_34), (38, am_B150_38), (77, am_B150_77)]
noncomputable def am_B151_0 : List Instr := [.aload 0, .getfield 131, .getfield 64, .getfield 33, .istore 1, .aload 0, .getfield 131, .getfield 64, .ldc 0, .putfield 33, .iload 1, .ret 0]
noncomputable def am_t151 : List (Nat × List Instr) := [(0, am_B151_0)]
noncomputable def am_B152_0 : List Instr := [.aload 0, .getfield 169, .istore 1, .aload 0, .ldc 0, .putfield 169, .iload 1, .ret 0]
noncomputable def am_t152 : List (Nat × List Instr) := [(0, am_B152_0)]
noncomputable def am_B153_0 : List Instr := [.aload 0, .getfield 131, .getfield 65, .aload 0, .getfield 128, .invokeinterface 81 2, .aload 0, .getfield 131, .invokeinterface 154 1, .istore 1, .aload 0, .getfield 131, .getfield 64, .ldc 0, .putfield 33, .iload 1, .ifCond .ne 47, .sipush (-1), .aload 0, .getfield 131, .getfield 67, .isub, .ret 0]
noncomputable def am_B153_47 : List Instr := [.aload 0, .getfield 128, .aload 0, .getfield 131, .getfield 65, .invokeinterface 81 2, .aload 0, .getfield 131, .getfield 66, .ret 0]
noncomputable def am_t153 : List (Nat × List Instr) := [(0, am_B153_0), (47, am_B153_47)]
noncomputable def am_B154_0 : List Instr := [.aload 0, .ldc 0, .putfield 66, .aload 0, .getfield 64, .invokeinterface 155 1, .goto_w 12]
noncomputable def am_B154_12 : List Instr := [.aload 0, .getfield 66, .ldc 120, .if_icmp .gt 81, .aload 0, .invokeinterface 159 1, .ifCond .ne 33, .aload 0, .invokeinterface 167 1, .ret 1]
noncomputable def am_B154_33 : List Instr := [.aload 0, .dup, .getfield 66, .ldc 1, .iadd, .putfield 66, .aload 0, .getfield 64, .getfield 34, .ifCond .ne 55, .ldc 1, .ret 1]
noncomputable def am_B154_55 : List Instr := [.aload 0, .getfield 64, .getfield 34, .ldc 3, .if_icmp .eq 71, .aload 0, .invokeinterface 167 1, .ret 1]
noncomputable def am_B154_71 : List Instr := [.aload 0, .getfield 64, .invokeinterface 156 1, .goto 12]
noncomputable def am_B154_81 : List Instr := [.aload 0, .invokeinterface 167 1, .ret 1]
noncomputable def am_t154 : List (Nat × List Instr) := [(0, am_B154_0), (12, am_B154_12), (33, am_B154_33), (55, am_B154_55), (71, am_B154_71), (81, am_B154_81)]
noncomputable def am_B155_0 : List Instr := [.aload 0, .ldc 0, .putfield 37, .aload 0, .invokeinterface 156 1, .return_]
noncomputable def am_t155 : List (Nat × List Instr) := [(0, am_B155_0)]
noncomputable def am_B156_0 : List Instr := [.aload 0, .aload 0, .getfield 37, .putfield 35, .goto_w 8]
noncomputable def am_B156_8 : List Instr := [.aload 0, .getfield 35, .aload 0, .getfield 33, .if_icmp .ge 46, .aload 0, .getfield 32, .aload 0, .getfield 35, .iaload, .ldc 32, .if_icmp .ne 46, .aload 0, .dup, .getfield 35, .ldc 1, .iadd, .putfield 35, .goto 8]
noncomputable def am_B156_46 : List Instr := [.aload 0, .aload 0, .getfield 35, .putfield 37, .aload 0, .getfield 35, .aload 0, .getfield 33, .if_icmp .lt 71, .aload 0, .ldc 0, .putfield 34, .return_]
noncomputable def am_B156_71 : List Instr := [.aload 0, .getfield 32, .aload 0, .getfield 35, .iaload, .istore 1, .iload 1, .ldc 97, .if_icmp .lt 105, .iload 1, .ldc 122, .if_icmp .gt 105, .aload 0, .ldc 1, .putfield 34, .aload 0, .invokeinterface 157 1, .goto 154]
noncomputable def am_B156_105 : List Instr := [.iload 1, .ldc 48, .if_icmp .lt 129, .iload 1, .ldc 57, .if_icmp .gt 129, .aload 0, .ldc 2, .putfield 34, .aload 0, .invokeinterface 158 1, .goto 154]
noncomputable def am_B156_129 : List Instr := [.aload 0, .iload 1, .ldc 59, .if_icmp .ne 140, .ldc 3, .goto 141]
noncomputable def am_B156_140 : List Instr := [.ldc 4, .goto_w 141]
noncomputable def am_B156_141 : List Instr := [.putfield 34, .aload 0, .aload 0, .getfield 35, .ldc 1, .iadd, .putfield 37, .goto_w 154]
noncomputable def am_B156_154 : List Instr := [.return_]
noncomputable def am_t156 : List (Nat × List Instr) := [(0, am_B156_0), (8, am_B156_8), (46, am_B156_46), (71, am_B156_71), (105, am_B156_105), (129, am_B156_129), (140, am_B156_140), (141, am_B156_141), (154, am_B156_154)]
noncomputable def am_B157_0 : List Instr := [.aload 0, .getfield 37, .aload 0, .getfield 33, .if_icmp .ge 52, .aload 0, .getfield 32, .aload 0, .getfield 37, .iaload, .ldc 97, .if_icmp .lt 52, .aload 0, .getfield 32, .aload 0, .getfield 37, .iaload, .ldc 122, .if_icmp .gt 52, .aload 0, .dup, .getfield 37, .ldc 1, .iadd, .putfield 37, .goto 0]
noncomputable def am_B157_52 : List Instr := [.return_]
noncomputable def am_t157 : List (Nat × List Instr) := [(0, am_B157_0), (52, am_B157_52)]
noncomputable def am_B158_0 : List Instr := [.aload 0, .ldc 0, .putfield 36, .goto_w 5]
noncomputable def am_B158_5 : List Instr := [.aload 0, .getfield 37, .aload 0, .getfield 33, .if_icmp .ge 91, .aload 0, .getfield 32, .aload 0, .getfield 37, .iaload, .ldc 48, .if_icmp .lt 91, .aload 0, .getfield 32, .aload 0, .getfield 37, .iaload, .ldc 57, .if_icmp .gt 91, .aload 0, .getfield 36, .ldc 9999, .if_icmp .gt 78, .aload 0, .aload 0, .getfield 36, .ldc 10, .imul, .aload 0, .getfield 32, .aload 0, .getfield 37, .iaload, .iadd, .ldc 48, .isub, .putfield 36, .goto_w 78]
noncomputable def am_B158_78 : List Instr := [.aload 0, .dup, .getfield 37, .ldc 1, .iadd, .putfield 37, .goto 5]
noncomputable def am_B158_91 : List Instr := [.return_]
noncomputable def am_t158 : List (Nat × List Instr) := [(0, am_B158_0), (5, am_B158_5), (78, am_B158_78), (91, am_B158_91)]
noncomputable def am_B159_0 : List Instr := [.aload 0, .getfield 64, .ldc_w 7, .invokeinterface 160 2, .ifCond .eq 24, .aload 0, .getfield 64, .invokeinterface 156 1, .aload 0, .invokeinterface 161 1, .ret 1]
noncomputable def am_B159_24 : List Instr := [.aload 0, .invokeinterface 163 1, .istore 1, .iload 1, .invokeinterface 38 1, .ifCond .eq 48, .aload 0, .getfield 65, .iload 1, .ldc 0, .invokeinterface 39 3, .goto 49]
noncomputable def am_B159_48 : List Instr := [.sipush (-1), .goto_w 49]
noncomputable def am_B159_49 : List Instr := [.istore 2, .iload 2, .sipush (-1), .if_icmp .ne 57, .ldc 0, .ret 1]
noncomputable def am_B159_57 : List Instr := [.aload 0, .getfield 64, .invokeinterface 156 1, .aload 0, .iload 2, .invokeinterface 165 2, .ret 1]
noncomputable def am_t159 : List (Nat × List Instr) := [(0, am_B159_0), (24, am_B159_24), (48, am_B159_48), (49, am_B159_49), (57, am_B159_57)]
noncomputable def am_B160_0 : List Instr := [.aload 0, .getfield 34, .ldc 1, .if_icmp .ne 24, .aload 0, .getfield 37, .aload 0, .getfield 35, .isub, .aload 1, .invokeinterface 2 1, .if_icmp .eq 26, .goto_w 24]
noncomputable def am_B160_24 : List Instr := [.ldc 0, .ret 1]
noncomputable def am_B160_26 : List Instr := [.ldc 0, .istore 2, .goto_w 28]
noncomputable def am_B160_28 : List Instr := [.iload 2, .aload 1, .invokeinterface 2 1, .if_icmp .ge 63, .aload 0, .getfield 32, .aload 0, .getfield 35, .iload 2, .iadd, .iaload, .aload 1, .iload 2, .invokeinterface 4 2, .if_icmp .eq 57, .ldc 0, .ret 1]
noncomputable def am_B160_57 : List Instr := [.iinc 2 1, .goto 28]
noncomputable def am_B160_63 : List Instr := [.ldc 1, .ret 1]
noncomputable def am_t160 : List (Nat × List Instr) := [(0, am_B160_0), (24, am_B160_24), (26, am_B160_26), (28, am_B160_28), (57, am_B160_57), (63, am_B160_63)]
noncomputable def am_B161_0 : List Instr := [.aload 0, .ldc 7, .invokeinterface 162 2, .ifCond .ne 11, .ldc 0, .ret 1]
noncomputable def am_B161_11 : List Instr := [.aload 0, .getfield 64, .getfield 36, .istore 1, .aload 0, .getfield 64, .invokeinterface 156 1, .aload 0, .ldc 9999, .invokeinterface 162 2, .ifCond .ne 38, .ldc 0, .ret 1]
noncomputable def am_B161_38 : List Instr := [.aload 0, .getfield 65, .getfield 96, .iload 1, .aload 0, .getfield 64, .getfield 36, .iastore, .aload 0, .getfield 64, .invokeinterface 156 1, .ldc 1, .ret 1]
noncomputable def am_t161 : List (Nat × List Instr) := [(0, am_B161_0), (11, am_B161_11), (38, am_B161_38)]
noncomputable def am_B162_0 : List Instr := [.aload 0, .getfield 64, .getfield 34, .ldc 2, .if_icmp .ne 26, .aload 0, .getfield 64, .getfield 36, .iload 1, .if_icmp .gt 26, .ldc 1, .goto 27]
noncomputable def am_B162_26 : List Instr := [.ldc 0, .goto_w 27]
noncomputable def am_B162_27 : List Instr := [.ret 1]
noncomputable def am_t162 : List (Nat × List Instr) := [(0, am_B162_0), (26, am_B162_26), (27, am_B162_27)]
noncomputable def am_B163_0 : List Instr := [.ldc 0, .istore 1, .goto_w 2]
noncomputable def am_B163_2 : List Instr := [.iload 1, .ldc 7, .if_icmp .ge 30, .aload 0, .getfield 64, .iload 1, .invokeinterface 164 1, .invokeinterface 160 2, .ifCond .eq 24, .iload 1, .ret 0]
noncomputable def am_B163_24 : List Instr := [.iinc 1 1, .goto 2]
noncomputable def am_B163_30 : List Instr := [.sipush (-1), .ret 0]
noncomputable def am_t163 : List (Nat × List Instr) := [(0, am_B163_0), (2, am_B163_2), (24, am_B163_24), (30, am_B163_30)]
noncomputable def am_B164_0 : List Instr := [.iload 0, .tableswitch 58 0 5 #[40, 43, 46, 49, 52, 55]]
noncomputable def am_B164_40 : List Instr := [.ldc_w 0, .ret 5]
noncomputable def am_B164_43 : List Instr := [.ldc_w 1, .ret 5]
noncomputable def am_B164_46 : List Instr := [.ldc_w 2, .ret 5]
noncomputable def am_B164_49 : List Instr := [.ldc_w 3, .ret 5]
noncomputable def am_B164_52 : List Instr := [.ldc_w 4, .ret 5]
noncomputable def am_B164_55 : List Instr := [.ldc_w 5, .ret 5]
noncomputable def am_B164_58 : List Instr := [.ldc_w 6, .ret 5]
noncomputable def am_t164 : List (Nat × List Instr) := [(0, am_B164_0), (40, am_B164_40), (43, am_B164_43), (46, am_B164_46), (49, am_B164_49), (52, am_B164_52), (55, am_B164_55), (58, am_B164_58)]
noncomputable def am_B165_0 : List Instr := [.aload 0, .ldc_w 8, .iload 1, .ldc 1, .ldc 7, .invokeinterface 166 5, .ifCond .eq 44, .aload 0, .ldc_w 9, .iload 1, .ldc 2, .ldc 7, .invokeinterface 166 5, .ifCond .eq 44, .aload 0, .ldc_w 10, .iload 1, .ldc 3, .iload 1, .ldc 1, .isub, .invokeinterface 166 5, .ifCond .eq 44, .ldc 1, .goto 45]
noncomputable def am_B165_44 : List Instr := [.ldc 0, .goto_w 45]
noncomputable def am_B165_45 : List Instr := [.ret 1]
noncomputable def am_t165 : List (Nat × List Instr) := [(0, am_B165_0), (44, am_B165_44), (45, am_B165_45)]
noncomputable def am_B166_0 : List Instr := [.aload 0, .getfield 64, .aload 1, .invokeinterface 160 2, .ifCond .ne 13, .ldc 1, .ret 1]
noncomputable def am_B166_13 : List Instr := [.aload 0, .getfield 64, .invokeinterface 156 1, .aload 0, .iload 4, .invokeinterface 162 2, .ifCond .ne 31, .ldc 0, .ret 1]
noncomputable def am_B166_31 : List Instr := [.aload 0, .getfield 65, .iload 2, .iload 3, .aload 0, .getfield 64, .getfield 36, .invokeinterface 54 4, .aload 0, .getfield 64, .invokeinterface 156 1, .ldc 1, .ret 1]
noncomputable def am_t166 : List (Nat × List Instr) := [(0, am_B166_0), (13, am_B166_13), (31, am_B166_31)]
noncomputable def am_B167_0 : List Instr := [.aload 0, .aload 0, .getfield 64, .getfield 35, .putfield 67, .ldc 0, .ret 1]
noncomputable def am_t167 : List (Nat × List Instr) := [(0, am_B167_0)]
noncomputable def am_B168_0 : List Instr := [.aload 0, .ldc 0, .putfield 171, .aload 0, .ldc 0, .putfield 174, .aload 0, .ldc 0, .putfield 177, .aload 0, .aload 0, .getfield 160, .ldc 1, .iaload, .putfield 178, .aload 0, .invokeinterface 169 1, .aload 0, .invokeinterface 171 1, .goto_w 33]
noncomputable def am_B168_33 : List Instr := [.aload 0, .getfield 174, .ifCond .ne 74, .aload 0, .getfield 172, .ldc 3, .if_icmp .ne 74, .aload 0, .getfield 168, .aload 0, .getfield 170, .iaload, .ldc 59, .if_icmp .ne 74, .aload 0, .ldc 1, .invokeinterface 174 2, .aload 0, .invokeinterface 171 1, .goto 33]
noncomputable def am_B168_74 : List Instr := [.aload 0, .aload 0, .getfield 172, .ifCond .ne 86, .ldc 1, .goto 87]
noncomputable def am_B168_86 : List Instr := [.ldc 0, .goto_w 87]
noncomputable def am_B168_87 : List Instr := [.invokeinterface 174 2, .aload 0, .ldc 0, .putfield 169, .aload 0, .getfield 174, .ifCond .eq 109, .sipush (-1), .aload 0, .getfield 170, .isub, .ret 0]
noncomputable def am_B168_109 : List Instr := [.ldc 0, .istore 1, .ldc 0, .istore 2, .goto_w 113]
noncomputable def am_B168_113 : List Instr := [.iload 2, .aload 0, .getfield 177, .if_icmp .ge 145, .iload 1, .aload 0, .ldc 4, .iload 2, .imul, .invokeinterface 178 2, .ifCond .ge 136, .ldc 0, .goto 137]
noncomputable def am_B168_136 : List Instr := [.ldc 1, .goto_w 137]
noncomputable def am_B168_137 : List Instr := [.iadd, .istore 1, .iinc 2 1, .goto 113]
noncomputable def am_B168_145 : List Instr := [.iload 1, .ret 0]
noncomputable def am_t168 : List (Nat × List Instr) := [(0, am_B168_0), (33, am_B168_33), (74, am_B168_74), (86, am_B168_86), (87, am_B168_87), (109, am_B168_109), (113, am_B168_113), (136, am_B168_136), (137, am_B168_137), (145, am_B168_145)]
noncomputable def am_B169_0 : List Instr := [.aload 0, .aload 0, .getfield 171, .putfield 170, .goto_w 8]
noncomputable def am_B169_8 : List Instr := [.aload 0, .aload 0, .getfield 170, .invokeinterface 170 2, .ldc 32, .if_icmp .ne 34, .aload 0, .dup, .getfield 170, .ldc 1, .iadd, .putfield 170, .goto 8]
noncomputable def am_B169_34 : List Instr := [.aload 0, .aload 0, .getfield 170, .invokeinterface 170 2, .istore 1, .aload 0, .aload 0, .getfield 170, .putfield 171, .aload 0, .ldc 0, .putfield 173, .iload 1, .ifCond .ge 68, .aload 0, .ldc 0, .putfield 172, .goto 206]
noncomputable def am_B169_68 : List Instr := [.iload 1, .ldc 97, .ldc 122, .invokeinterface 15 3, .ifCond .eq 115, .aload 0, .ldc 1, .putfield 172, .goto_w 84]
noncomputable def am_B169_84 : List Instr := [.aload 0, .aload 0, .getfield 171, .invokeinterface 170 2, .ldc 97, .ldc 122, .invokeinterface 15 3, .ifCond .eq 206, .aload 0, .dup, .getfield 171, .ldc 1, .iadd, .putfield 171, .goto 84]
noncomputable def am_B169_115 : List Instr := [.iload 1, .ldc 48, .ldc 57, .invokeinterface 15 3, .ifCond .eq 191, .aload 0, .ldc 2, .putfield 172, .goto_w 131]
noncomputable def am_B169_131 : List Instr := [.aload 0, .aload 0, .getfield 171, .invokeinterface 170 2, .ldc 48, .ldc 57, .invokeinterface 15 3, .ifCond .eq 206, .aload 0, .ldc 10000, .ldc 10, .aload 0, .getfield 173, .imul, .aload 0, .aload 0, .getfield 171, .invokeinterface 170 2, .iadd, .ldc 48, .isub, .invokeinterface 996 2, .putfield 173, .aload 0, .dup, .getfield 171, .ldc 1, .iadd, .putfield 171, .goto 131]
noncomputable def am_B169_191 : List Instr := [.aload 0, .ldc 3, .putfield 172, .aload 0, .dup, .getfield 171, .ldc 1, .iadd, .putfield 171, .goto_w 206]
noncomputable def am_B169_206 : List Instr := [.return_]
noncomputable def am_t169 : List (Nat × List Instr) := [(0, am_B169_0), (8, am_B169_8), (34, am_B169_34), (68, am_B169_68), (84, am_B169_84), (115, am_B169_115), (131, am_B169_131), (191, am_B169_191), (206, am_B169_206)]
noncomputable def am_B170_0 : List Instr := [.iload 1, .aload 0, .getfield 169, .if_icmp .ge 17, .aload 0, .getfield 168, .iload 1, .iaload, .goto 18]
noncomputable def am_B170_17 : List Instr := [.sipush (-1), .goto_w 18]
noncomputable def am_B170_18 : List Instr := [.ret 0]
noncomputable def am_t170 : List (Nat × List Instr) := [(0, am_B170_0), (17, am_B170_17), (18, am_B170_18)]
noncomputable def am_B171_0 : List Instr := [.aload 0, .invokeinterface 172 1, .istore 1, .iload 1, .ifCond .lt 83, .aload 0, .aload 0, .getfield 178, .ldc 8, .if_icmp .ge 23, .ldc 1, .goto 24]
noncomputable def am_B171_23 : List Instr := [.ldc 0, .goto_w 24]
noncomputable def am_B171_24 : List Instr := [.invokeinterface 174 2, .aload 0, .ldc_w 8, .ldc 7, .ldc 0, .invokeinterface 175 4, .istore 2, .aload 0, .ldc_w 9, .ldc 7, .ldc 1, .invokeinterface 175 4, .istore 3, .aload 0, .iload 1, .iload 2, .iload 3, .aload 0, .ldc_w 10, .aload 0, .getfield 178, .ldc 1, .isub, .sipush (-1), .invokeinterface 175 4, .invokeinterface 177 5, .aload 0, .dup, .getfield 178, .ldc 1, .iadd, .putfield 178, .goto 118]
noncomputable def am_B171_83 : List Instr := [.aload 0, .aload 0, .ldc_w 7, .invokeinterface 173 2, .invokeinterface 174 2, .aload 0, .ldc 0, .ldc 7, .invokeinterface 176 3, .istore 2, .aload 0, .ldc 10, .iload 2, .aload 0, .ldc 0, .ldc 9999, .invokeinterface 176 3, .ldc 0, .invokeinterface 177 5, .goto_w 118]
noncomputable def am_B171_118 : List Instr := [.return_]
noncomputable def am_t171 : List (Nat × List Instr) := [(0, am_B171_0), (23, am_B171_23), (24, am_B171_24), (83, am_B171_83), (118, am_B171_118)]
noncomputable def am_B172_0 : List Instr := [.sipush (-1), .istore 1, .ldc 0, .istore 2, .goto_w 4]
noncomputable def am_B172_4 : List Instr := [.iload 2, .aload 0, .getfield 175, .arraylength, .if_icmp .ge 38, .aload 0, .aload 0, .getfield 175, .iload 2, .aaload, .invokeinterface 173 2, .ifCond .eq 30, .iload 2, .goto 31]
noncomputable def am_B172_30 : List Instr := [.iload 1, .goto_w 31]
noncomputable def am_B172_31 : List Instr := [.istore 1, .iinc 2 1, .goto 4]
noncomputable def am_B172_38 : List Instr := [.iload 1, .ret 0]
noncomputable def am_t172 : List (Nat × List Instr) := [(0, am_B172_0), (4, am_B172_4), (30, am_B172_30), (31, am_B172_31), (38, am_B172_38)]
noncomputable def am_B173_0 : List Instr := [.aload 0, .getfield 172, .ldc 1, .if_icmp .ne 28, .aload 0, .getfield 171, .aload 0, .getfield 170, .isub, .aload 1, .invokeinterface 2 1, .if_icmp .ne 28, .ldc 1, .goto 29]
noncomputable def am_B173_28 : List Instr := [.ldc 0, .goto_w 29]
noncomputable def am_B173_29 : List Instr := [.istore 2, .ldc 0, .istore 3, .goto_w 32]
noncomputable def am_B173_32 : List Instr := [.iload 3, .aload 1, .invokeinterface 2 1, .if_icmp .ge 75, .iload 2, .ifCond .eq 75, .aload 0, .getfield 168, .aload 0, .getfield 170, .iload 3, .iadd, .iaload, .aload 1, .iload 3, .invokeinterface 4 2, .if_icmp .ne 67, .ldc 1, .goto 68]
noncomputable def am_B173_67 : List Instr := [.ldc 0, .goto_w 68]
noncomputable def am_B173_68 : List Instr := [.istore 2, .iinc 3 1, .goto 32]
noncomputable def am_B173_75 : List Instr := [.iload 2, .ret 1]
noncomputable def am_t173 : List (Nat × List Instr) := [(0, am_B173_0), (28, am_B173_28), (29, am_B173_29), (32, am_B173_32), (67, am_B173_67), (68, am_B173_68), (75, am_B173_75)]
noncomputable def am_B174_0 : List Instr := [.aload 0, .aload 0, .getfield 174, .ifCond .ne 12, .iload 1, .ifCond .ne 16, .goto_w 12]
noncomputable def am_B174_12 : List Instr := [.ldc 1, .goto 17]
noncomputable def am_B174_16 : List Instr := [.ldc 0, .goto_w 17]
noncomputable def am_B174_17 : List Instr := [.putfield 174, .aload 0, .getfield 174, .ifCond .ne 31, .aload 0, .invokeinterface 169 1, .goto_w 31]
noncomputable def am_B174_31 : List Instr := [.return_]
noncomputable def am_t174 : List (Nat × List Instr) := [(0, am_B174_0), (12, am_B174_12), (16, am_B174_16), (17, am_B174_17), (31, am_B174_31)]
noncomputable def am_B175_0 : List Instr := [.aload 0, .getfield 174, .ifCond .ne 15, .aload 0, .aload 1, .invokeinterface 173 2, .ifCond .ne 17, .goto_w 15]
noncomputable def am_B175_15 : List Instr := [.iload 3, .ret 0]
noncomputable def am_B175_17 : List Instr := [.aload 0, .ldc 1, .invokeinterface 174 2, .aload 0, .ldc 0, .iload 2, .invokeinterface 176 3, .ret 0]
noncomputable def am_t175 : List (Nat × List Instr) := [(0, am_B175_0), (15, am_B175_15), (17, am_B175_17)]
noncomputable def am_B176_0 : List Instr := [.aload 0, .getfield 173, .istore 3, .aload 0, .aload 0, .getfield 172, .ldc 2, .if_icmp .ne 27, .iload 3, .iload 1, .iload 2, .invokeinterface 15 3, .ifCond .eq 27, .ldc 1, .goto 28]
noncomputable def am_B176_27 : List Instr := [.ldc 0, .goto_w 28]
noncomputable def am_B176_28 : List Instr := [.invokeinterface 174 2, .iload 3, .ret 0]
noncomputable def am_t176 : List (Nat × List Instr) := [(0, am_B176_0), (27, am_B176_27), (28, am_B176_28)]
noncomputable def am_B177_0 : List Instr := [.ldc 4, .aload 0, .getfield 177, .imul, .istore 5, .aload 0, .getfield 176, .iload 5, .iload 1, .iastore, .aload 0, .getfield 176, .iload 5, .ldc 1, .iadd, .iload 2, .iastore, .aload 0, .getfield 176, .iload 5, .ldc 2, .iadd, .iload 3, .iastore, .aload 0, .getfield 176, .iload 5, .ldc 3, .iadd, .iload 4, .iastore, .aload 0, .dup, .getfield 177, .ldc 1, .iadd, .putfield 177, .return_]
noncomputable def am_t177 : List (Nat × List Instr) := [(0, am_B177_0)]
noncomputable def am_B178_0 : List Instr := [.aload 0, .getfield 176, .iload 1, .ldc 1, .iadd, .iaload, .istore 2, .aload 0, .getfield 176, .iload 1, .ldc 2, .iadd, .iaload, .istore 3, .aload 0, .getfield 176, .iload 1, .iaload, .ldc 10, .if_icmp .ne 41, .aload 0, .ldc 13, .iload 2, .iadd, .iload 3, .invokeinterface 17 3, .goto 61]
noncomputable def am_B178_41 : List Instr := [.aload 0, .aload 0, .getfield 176, .iload 1, .iaload, .iload 2, .iload 3, .aload 0, .getfield 176, .iload 1, .ldc 3, .iadd, .iaload, .invokeinterface 42 5, .goto_w 61]
noncomputable def am_B178_61 : List Instr := [.ret 0]
noncomputable def am_t178 : List (Nat × List Instr) := [(0, am_B178_0), (41, am_B178_41), (61, am_B178_61)]
noncomputable def am_B179_0 : List Instr := [.iload 1, .invokeinterface 180 1, .ifCond .eq 20, .iload 2, .sipush (-1), .if_icmp .eq 27, .aload 0, .iload 2, .invokeinterface 44 2, .ifCond .ne 27, .goto_w 20]
noncomputable def am_B179_20 : List Instr := [.aload 0, .sipush (-1000001), .invokeinterface 12 2, .ret 0]
noncomputable def am_B179_27 : List Instr := [.aload 0, .getfield 128, .getfield 102, .iload 1, .iload 2, .iastore, .ldc 1, .ret 0]
noncomputable def am_t179 : List (Nat × List Instr) := [(0, am_B179_0), (20, am_B179_20), (27, am_B179_27)]
noncomputable def am_B180_0 : List Instr := [.iload 0, .ldc 0, .ldc 9, .invokeinterface 11 3, .ret 1]
noncomputable def am_t180 : List (Nat × List Instr) := [(0, am_B180_0)]
noncomputable def am_B181_0 : List Instr := [.iload 1, .invokeinterface 182 1, .ifCond .eq 20, .iload 2, .sipush (-1), .if_icmp .eq 27, .aload 0, .iload 2, .invokeinterface 50 2, .ifCond .ne 27, .goto_w 20]
noncomputable def am_B181_20 : List Instr := [.aload 0, .sipush (-1000001), .invokeinterface 18 2, .ret 0]
noncomputable def am_B181_27 : List Instr := [.aload 0, .getfield 160, .ldc 3, .iload 1, .iadd, .iload 2, .iastore, .ldc 1, .ret 0]
noncomputable def am_t181 : List (Nat × List Instr) := [(0, am_B181_0), (20, am_B181_20), (27, am_B181_27)]
noncomputable def am_B182_0 : List Instr := [.iload 0, .ldc 0, .ldc 9, .invokeinterface 15 3, .ret 1]
noncomputable def am_t182 : List (Nat × List Instr) := [(0, am_B182_0)]
noncomputable def am_B183_0 : List Instr := [.iload 1, .invokeinterface 180 1, .ifCond .eq 14, .iload 2, .invokeinterface 38 1, .ifCond .ne 21, .goto_w 14]
noncomputable def am_B183_14 : List Instr := [.aload 0, .sipush (-1000001), .invokeinterface 12 2, .ret 0]
noncomputable def am_B183_21 : List Instr := [.aload 0, .getfield 128, .getfield 102, .iload 1, .iaload, .istore 3, .aload 0, .iload 3, .invokeinterface 44 2, .ifCond .ne 46, .aload 0, .sipush (-1000006), .invokeinterface 12 2, .ret 0]
noncomputable def am_B183_46 : List Instr := [.aload 0, .getfield 128, .getfield 97, .iload 3, .iaload, .iload 2, .invokeinterface 184 2, .ifCond .ne 69, .aload 0, .sipush (-1000003), .invokeinterface 12 2, .ret 0]
noncomputable def am_B183_69 : List Instr := [.iload 3, .ret 0]
noncomputable def am_t183 : List (Nat × List Instr) := [(0, am_B183_0), (14, am_B183_14), (21, am_B183_21), (46, am_B183_46), (69, am_B183_69)]
noncomputable def am_B184_0 : List Instr := [.iload 0, .istore 2, .ldc 0, .istore 3, .goto_w 4]
noncomputable def am_B184_4 : List Instr := [.iload 3, .ldc 7, .if_icmp .ge 36, .iload 2, .invokeinterface 38 1, .ifCond .eq 36, .iload 2, .iload 1, .if_icmp .ne 24, .ldc 1, .ret 1]
noncomputable def am_B184_24 : List Instr := [.getstatic 0, .iload 2, .iaload, .istore 2, .iinc 3 1, .goto 4]
noncomputable def am_B184_36 : List Instr := [.ldc 0, .ret 1]
noncomputable def am_t184 : List (Nat × List Instr) := [(0, am_B184_0), (4, am_B184_4), (24, am_B184_24), (36, am_B184_36)]
noncomputable def am_B185_0 : List Instr := [.iload 1, .invokeinterface 182 1, .ifCond .eq 14, .iload 2, .invokeinterface 41 1, .ifCond .ne 21, .goto_w 14]
noncomputable def am_B185_14 : List Instr := [.aload 0, .sipush (-1000001), .invokeinterface 18 2, .ret 0]
noncomputable def am_B185_21 : List Instr := [.aload 0, .getfield 160, .ldc 3, .iload 1, .iadd, .iaload, .istore 3, .iload 3, .ifCond .ge 41, .aload 0, .sipush (-1000006), .invokeinterface 18 2, .ret 0]
noncomputable def am_B185_41 : List Instr := [.aload 0, .iload 3, .ldc 0, .invokeinterface 28 3, .iload 2, .invokeinterface 186 2, .ifCond .eq 58, .iload 3, .goto 65]
noncomputable def am_B185_58 : List Instr := [.aload 0, .sipush (-1000003), .invokeinterface 18 2, .goto_w 65]
noncomputable def am_B185_65 : List Instr := [.ret 0]
noncomputable def am_t185 : List (Nat × List Instr) := [(0, am_B185_0), (14, am_B185_14), (21, am_B185_21), (41, am_B185_41), (58, am_B185_58), (65, am_B185_65)]
noncomputable def am_B186_0 : List Instr := [.iload 0, .istore 2, .goto_w 2]
noncomputable def am_B186_2 : List Instr := [.iload 2, .ifCond .lt 19, .iload 2, .iload 1, .if_icmp .eq 19, .iload 2, .invokeinterface 187 1, .istore 2, .goto 2]
noncomputable def am_B186_19 : List Instr := [.iload 2, .ifCond .lt 27, .ldc 1, .goto 28]
noncomputable def am_B186_27 : List Instr := [.ldc 0, .goto_w 28]
noncomputable def am_B186_28 : List Instr := [.ret 1]
noncomputable def am_t186 : List (Nat × List Instr) := [(0, am_B186_0), (2, am_B186_2), (19, am_B186_19), (27, am_B186_27), (28, am_B186_28)]
noncomputable def am_B187_0 : List Instr := [.iload 0, .ifCond .ne 8, .sipush (-1), .goto 37]
noncomputable def am_B187_8 : List Instr := [.iload 0, .ldc 3, .if_icmp .ne 17, .ldc 2, .goto 37]
noncomputable def am_B187_17 : List Instr := [.iload 0, .ldc 4, .if_icmp .ne 26, .ldc 3, .goto 37]
noncomputable def am_B187_26 : List Instr := [.iload 0, .ldc 6, .if_icmp .ne 36, .ldc 1, .goto 37]
noncomputable def am_B187_36 : List Instr := [.ldc 0, .goto_w 37]
noncomputable def am_B187_37 : List Instr := [.ret 0]
noncomputable def am_t187 : List (Nat × List Instr) := [(0, am_B187_0), (8, am_B187_8), (17, am_B187_17), (26, am_B187_26), (36, am_B187_36), (37, am_B187_37)]
noncomputable def am_B188_0 : List Instr := [.iload 1, .invokeinterface 129 1, .ifCond .eq 29, .iload 2, .ifCond .eq 36, .iload 2, .ldc 8, .if_icmp .eq 36, .iload 2, .ldc 16, .if_icmp .eq 36, .iload 2, .ldc 32, .if_icmp .eq 36, .goto_w 29]
noncomputable def am_B188_29 : List Instr := [.aload 0, .sipush (-1000001), .invokeinterface 12 2, .ret 0]
noncomputable def am_B188_36 : List Instr := [.iload 3, .ifCond .ge 47, .aload 0, .sipush (-1000007), .invokeinterface 12 2, .ret 0]
noncomputable def am_B188_47 : List Instr := [.iload 3, .ldc 40, .if_icmp .le 60, .aload 0, .sipush (-1000001), .invokeinterface 12 2, .ret 0]
noncomputable def am_B188_60 : List Instr := [.aload 0, .getfield 132, .iload 1, .aaload, .iload 2, .iload 3, .invokeinterface 189 3, .aload 0, .getfield 132, .iload 1, .aaload, .getfield 2, .ret 0]
noncomputable def am_t188 : List (Nat × List Instr) := [(0, am_B188_0), (29, am_B188_29), (36, am_B188_36), (47, am_B188_47), (60, am_B188_60)]
noncomputable def am_B189_0 : List Instr := [.aload 0, .iload 1, .putfield 1, .aload 0, .iload 1, .ifCond .ne 14, .ldc 0, .goto 15]
noncomputable def am_B189_14 : List Instr := [.iload 2, .goto_w 15]
noncomputable def am_B189_15 : List Instr := [.putfield 2, .aload 0, .getfield 0, .ldc 0, .invokeinterface 0 2, .return_]
noncomputable def am_t189 : List (Nat × List Instr) := [(0, am_B189_0), (14, am_B189_14), (15, am_B189_15)]
noncomputable def am_B190_0 : List Instr := [.iload 1, .invokeinterface 134 1, .ifCond .eq 29, .iload 2, .ifCond .eq 36, .iload 2, .ldc 8, .if_icmp .eq 36, .iload 2, .ldc 16, .if_icmp .eq 36, .iload 2, .ldc 32, .if_icmp .eq 36, .goto_w 29]
noncomputable def am_B190_29 : List Instr := [.aload 0, .sipush (-1000001), .invokeinterface 18 2, .ret 0]
noncomputable def am_B190_36 : List Instr := [.iload 3, .ifCond .ge 48, .aload 0, .sipush (-1000007), .invokeinterface 18 2, .ret 0]
noncomputable def am_B190_48 : List Instr := [.iload 3, .ldc 40, .if_icmp .le 61, .aload 0, .sipush (-1000001), .invokeinterface 18 2, .ret 0]
noncomputable def am_B190_61 : List Instr := [.aload 0, .getfield 179, .iload 1, .iload 2, .iastore, .aload 0, .getfield 180, .iload 1, .iload 2, .ifCond .ne 81, .ldc 0, .goto 82]
noncomputable def am_B190_81 : List Instr := [.iload 3, .goto_w 82]
noncomputable def am_B190_82 : List Instr := [.iastore, .ldc 0, .istore 4, .goto_w 86]
noncomputable def am_B190_86 : List Instr := [.iload 4, .ldc 40, .if_icmp .ge 112, .aload 0, .getfield 181, .ldc 40, .iload 1, .imul, .iload 4, .iadd, .ldc 0, .iastore, .iinc 4 1, .goto 86]
noncomputable def am_B190_112 : List Instr := [.aload 0, .getfield 180, .iload 1, .iaload, .ret 0]
noncomputable def am_t190 : List (Nat × List Instr) := [(0, am_B190_0), (29, am_B190_29), (36, am_B190_36), (48, am_B190_48), (61, am_B190_61), (81, am_B190_81), (82, am_B190_82), (86, am_B190_86), (112, am_B190_112)]
noncomputable def am_B191_0 : List Instr := [.iload 1, .invokeinterface 129 1, .ifCond .ne 14, .aload 0, .sipush (-1000001), .invokeinterface 12 2, .ret 0]
noncomputable def am_B191_14 : List Instr := [.aload 0, .getfield 132, .iload 1, .aaload, .invokeinterface 130 1, .ifCond .eq 33, .aload 0, .sipush (-1000006), .invokeinterface 12 2, .ret 0]
noncomputable def am_B191_33 : List Instr := [.aload 0, .getfield 132, .iload 1, .aaload, .iload 2, .ldc 1, .invokeinterface 192 3, .ifCond .ne 54, .aload 0, .sipush (-1000001), .invokeinterface 12 2, .ret 0]
noncomputable def am_B191_54 : List Instr := [.aload 0, .getfield 132, .iload 1, .aaload, .iload 2, .iload 3, .invokeinterface 193 3, .ldc 1, .ret 0]
noncomputable def am_t191 : List (Nat × List Instr) := [(0, am_B191_0), (14, am_B191_14), (33, am_B191_33), (54, am_B191_54)]
noncomputable def am_B192_0 : List Instr := [.iload 1, .ifCond .lt 30, .iload 2, .ifCond .lt 30, .iload 2, .aload 0, .getfield 2, .if_icmp .gt 30, .iload 1, .aload 0, .getfield 2, .iload 2, .isub, .if_icmp .gt 30, .ldc 1, .goto 31]
noncomputable def am_B192_30 : List Instr := [.ldc 0, .goto_w 31]
noncomputable def am_B192_31 : List Instr := [.ret 1]
noncomputable def am_t192 : List (Nat × List Instr) := [(0, am_B192_0), (30, am_B192_30), (31, am_B192_31)]
noncomputable def am_B193_0 : List Instr := [.aload 0, .getfield 1, .ldc 8, .if_icmp .ne 20, .aload 0, .getfield 0, .iload 1, .iload 2, .i2b, .iastore, .goto 47]
noncomputable def am_B193_20 : List Instr := [.aload 0, .getfield 1, .ldc 16, .if_icmp .ne 40, .aload 0, .getfield 0, .iload 1, .iload 2, .i2s, .iastore, .goto 47]
noncomputable def am_B193_40 : List Instr := [.aload 0, .getfield 0, .iload 1, .iload 2, .iastore, .goto_w 47]
noncomputable def am_B193_47 : List Instr := [.return_]
noncomputable def am_t193 : List (Nat × List Instr) := [(0, am_B193_0), (20, am_B193_20), (40, am_B193_40), (47, am_B193_47)]
noncomputable def am_B194_0 : List Instr := [.iload 1, .invokeinterface 134 1, .ifCond .ne 14, .aload 0, .sipush (-1000001), .invokeinterface 18 2, .ret 0]
noncomputable def am_B194_14 : List Instr := [.aload 0, .getfield 179, .iload 1, .iaload, .ifCond .ne 30, .aload 0, .sipush (-1000006), .invokeinterface 18 2, .ret 0]
noncomputable def am_B194_30 : List Instr := [.iload 2, .ldc 0, .aload 0, .getfield 180, .iload 1, .iaload, .ldc 1, .isub, .invokeinterface 15 3, .ifCond .ne 53, .aload 0, .sipush (-1000001), .invokeinterface 18 2, .ret 0]
noncomputable def am_B194_53 : List Instr := [.aload 0, .getfield 181, .ldc 40, .iload 1, .imul, .iload 2, .iadd, .iload 3, .aload 0, .getfield 179, .iload 1, .iaload, .invokeinterface 195 2, .iastore, .ldc 1, .ret 0]
noncomputable def am_t194 : List (Nat × List Instr) := [(0, am_B194_0), (14, am_B194_14), (30, am_B194_30), (53, am_B194_53)]
noncomputable def am_B195_0 : List Instr := [.iload 1, .ldc 8, .if_icmp .ne 11, .iload 0, .i2b, .goto 23]
noncomputable def am_B195_11 : List Instr := [.iload 1, .ldc 16, .if_icmp .ne 22, .iload 0, .i2s, .goto 23]
noncomputable def am_B195_22 : List Instr := [.iload 0, .goto_w 23]
noncomputable def am_B195_23 : List Instr := [.ret 0]
noncomputable def am_t195 : List (Nat × List Instr) := [(0, am_B195_0), (11, am_B195_11), (22, am_B195_22), (23, am_B195_23)]
noncomputable def am_B196_0 : List Instr := [.iload 1, .invokeinterface 129 1, .ifCond .eq 14, .iload 3, .invokeinterface 129 1, .ifCond .ne 21, .goto_w 14]
noncomputable def am_B196_14 : List Instr := [.aload 0, .sipush (-1000001), .invokeinterface 12 2, .ret 0]
noncomputable def am_B196_21 : List Instr := [.aload 0, .getfield 132, .iload 1, .aaload, .astore 6, .aload 0, .getfield 132, .iload 3, .aaload, .astore 7, .aload 6, .invokeinterface 130 1, .ifCond .ne 53, .aload 7, .invokeinterface 130 1, .ifCond .eq 60, .goto_w 53]
noncomputable def am_B196_53 : List Instr := [.aload 0, .sipush (-1000006), .invokeinterface 12 2, .ret 0]
noncomputable def am_B196_60 : List Instr := [.aload 6, .getfield 1, .aload 7, .getfield 1, .if_icmp .eq 80, .aload 0, .sipush (-1000003), .invokeinterface 12 2, .ret 0]
noncomputable def am_B196_80 : List Instr := [.aload 6, .iload 2, .iload 5, .invokeinterface 192 3, .ifCond .eq 103, .aload 7, .iload 4, .iload 5, .invokeinterface 192 3, .ifCond .ne 110, .goto_w 103]
noncomputable def am_B196_103 : List Instr := [.aload 0, .sipush (-1000001), .invokeinterface 12 2, .ret 0]
noncomputable def am_B196_110 : List Instr := [.aload 6, .getfield 0, .iload 2, .aload 7, .getfield 0, .iload 4, .iload 5, .invokeinterface 999 5, .iload 5, .ret 0]
noncomputable def am_t196 : List (Nat × List Instr) := [(0, am_B196_0), (14, am_B196_14), (21, am_B196_21), (53, am_B196_53), (60, am_B196_60), (80, am_B196_80), (103, am_B196_103), (110, am_B196_110)]
noncomputable def am_B197_0 : List Instr := [.iload 1, .invokeinterface 134 1, .ifCond .eq 14, .iload 3, .invokeinterface 134 1, .ifCond .ne 21, .goto_w 14]
noncomputable def am_B197_14 : List Instr := [.aload 0, .sipush (-1000001), .invokeinterface 18 2, .ret 0]
noncomputable def am_B197_21 : List Instr := [.aload 0, .getfield 179, .iload 1, .iaload, .ifCond .eq 39, .aload 0, .getfield 179, .iload 3, .iaload, .ifCond .ne 46, .goto_w 39]
noncomputable def am_B197_39 : List Instr := [.aload 0, .sipush (-1000006), .invokeinterface 18 2, .ret 0]
noncomputable def am_B197_46 : List Instr := [.aload 0, .getfield 179, .iload 1, .iaload, .aload 0, .getfield 179, .iload 3, .iaload, .if_icmp .eq 69, .aload 0, .sipush (-1000003), .invokeinterface 18 2, .ret 0]
noncomputable def am_B197_69 : List Instr := [.iload 2, .ifCond .lt 118, .iload 4, .ifCond .lt 118, .iload 5, .ifCond .lt 118, .iload 2, .i2l, .iload 5, .i2l, .ladd, .aload 0, .getfield 180, .iload 1, .iaload, .i2l, .lcmp, .ifCond .gt 118, .iload 4, .i2l, .iload 5, .i2l, .ladd, .aload 0, .getfield 180, .iload 3, .iaload, .i2l, .lcmp, .ifCond .le 125, .goto_w 118]
noncomputable def am_B197_118 : List Instr := [.aload 0, .sipush (-1000001), .invokeinterface 18 2, .ret 0]
noncomputable def am_B197_125 : List Instr := [.ldc 0, .istore 6, .goto_w 128]
noncomputable def am_B197_128 : List Instr := [.iload 6, .iload 5, .if_icmp .ge 162, .aload 0, .getfield 182, .iload 6, .aload 0, .getfield 181, .ldc 40, .iload 1, .imul, .iload 2, .iadd, .iload 6, .iadd, .iaload, .iastore, .iinc 6 1, .goto 128]
noncomputable def am_B197_162 : List Instr := [.ldc 0, .istore 6, .goto_w 165]
noncomputable def am_B197_165 : List Instr := [.iload 6, .iload 5, .if_icmp .ge 200, .aload 0, .getfield 181, .ldc 40, .iload 3, .imul, .iload 4, .iadd, .iload 6, .iadd, .aload 0, .getfield 182, .iload 6, .iaload, .iastore, .iinc 6 1, .goto 165]
noncomputable def am_B197_200 : List Instr := [.iload 5, .ret 0]
noncomputable def am_t197 : List (Nat × List Instr) := [(0, am_B197_0), (14, am_B197_14), (21, am_B197_21), (39, am_B197_39), (46, am_B197_46), (69, am_B197_69), (118, am_B197_118), (125, am_B197_125), (128, am_B197_128), (162, am_B197_162), (165, am_B197_165), (200, am_B197_200)]
noncomputable def am_B198_0 : List Instr := [.iload 1, .invokeinterface 129 1, .ifCond .ne 14, .aload 0, .sipush (-1000001), .invokeinterface 12 2, .ret 0]
noncomputable def am_B198_14 : List Instr := [.aload 0, .getfield 132, .iload 1, .aaload, .astore 2, .aload 2, .invokeinterface 130 1, .ifCond .eq 35, .aload 0, .sipush (-1000006), .invokeinterface 12 2, .ret 0]
noncomputable def am_B198_35 : List Instr := [.ldc 0, .istore 3, .goto_w 37]
noncomputable def am_B198_37 : List Instr := [.iload 3, .aload 2, .getfield 2, .if_icmp .ge 89, .iload 3, .invokeinterface 10 1, .ifCond .eq 89, .aload 2, .getfield 0, .iload 3, .iaload, .ldc 0, .ldc 9999, .invokeinterface 11 3, .ifCond .eq 89, .aload 0, .getfield 128, .getfield 96, .iload 3, .aload 2, .getfield 0, .iload 3, .iaload, .iastore, .iinc 3 1, .goto 37]
noncomputable def am_B198_89 : List Instr := [.iload 3, .ret 0]
noncomputable def am_t198 : List (Nat × List Instr) := [(0, am_B198_0), (14, am_B198_14), (35, am_B198_35), (37, am_B198_37), (89, am_B198_89)]
noncomputable def am_B199_0 : List Instr := [.aload 0, .iload 1, .invokeinterface 133 2, .ifCond .eq 18, .aload 0, .aload 0, .iload 1, .invokeinterface 133 2, .invokeinterface 18 2, .ret 0]
noncomputable def am_B199_18 : List Instr := [.ldc 0, .istore 2, .goto_w 20]
noncomputable def am_B199_20 : List Instr := [.iload 2, .aload 0, .getfield 180, .iload 1, .iaload, .if_icmp .ge 80, .iload 2, .invokeinterface 14 1, .ifCond .eq 80, .aload 0, .getfield 181, .ldc 40, .iload 1, .imul, .iload 2, .iadd, .iaload, .invokeinterface 16 1, .ifCond .eq 80, .aload 0, .getfield 160, .ldc 13, .iload 2, .iadd, .aload 0, .getfield 181, .ldc 40, .iload 1, .imul, .iload 2, .iadd, .iaload, .iastore, .iinc 2 1, .goto 20]
noncomputable def am_B199_80 : List Instr := [.iload 2, .ret 0]
noncomputable def am_t199 : List (Nat × List Instr) := [(0, am_B199_0), (18, am_B199_18), (20, am_B199_20), (80, am_B199_80)]
noncomputable def am_B200_0 : List Instr := [.iload 1, .invokeinterface 129 1, .ifCond .ne 14, .aload 0, .sipush (-1000001), .invokeinterface 12 2, .ret 0]
noncomputable def am_B200_14 : List Instr := [.aload 0, .getfield 132, .iload 1, .aaload, .astore 2, .aload 2, .invokeinterface 130 1, .ifCond .eq 35, .aload 0, .sipush (-1000006), .invokeinterface 12 2, .ret 0]
noncomputable def am_B200_35 : List Instr := [.aload 0, .getfield 128, .invokeinterface 20 1, .ldc 0, .istore 3, .goto_w 44]
noncomputable def am_B200_44 : List Instr := [.iload 3, .aload 2, .getfield 2, .if_icmp .ge 88, .aload 0, .iload 3, .invokeinterface 44 2, .ifCond .eq 78, .aload 0, .getfield 128, .getfield 107, .iload 3, .iaload, .aload 2, .getfield 0, .iload 3, .iaload, .if_icmp .eq 82, .goto_w 78]
noncomputable def am_B200_78 : List Instr := [.ldc 1, .iload 3, .iadd, .ret 0]
noncomputable def am_B200_82 : List Instr := [.iinc 3 1, .goto 44]
noncomputable def am_B200_88 : List Instr := [.ldc 0, .ret 0]
noncomputable def am_t200 : List (Nat × List Instr) := [(0, am_B200_0), (14, am_B200_14), (35, am_B200_35), (44, am_B200_44), (78, am_B200_78), (82, am_B200_82), (88, am_B200_88)]
noncomputable def am_B201_0 : List Instr := [.aload 0, .iload 1, .invokeinterface 133 2, .ifCond .eq 18, .aload 0, .aload 0, .iload 1, .invokeinterface 133 2, .invokeinterface 18 2, .ret 0]
noncomputable def am_B201_18 : List Instr := [.aload 0, .invokeinterface 26 1, .ldc 0, .istore 2, .goto_w 24]
noncomputable def am_B201_24 : List Instr := [.iload 2, .aload 0, .getfield 180, .iload 1, .iaload, .if_icmp .ge 68, .aload 0, .iload 2, .invokeinterface 50 2, .ifCond .eq 68, .aload 0, .getfield 181, .ldc 40, .iload 1, .imul, .iload 2, .iadd, .iaload, .aload 0, .getfield 165, .iload 2, .iaload, .if_icmp .ne 68, .iinc 2 1, .goto 24]
noncomputable def am_B201_68 : List Instr := [.iload 2, .aload 0, .getfield 180, .iload 1, .iaload, .if_icmp .ne 82, .ldc 0, .goto 85]
noncomputable def am_B201_82 : List Instr := [.ldc 1, .iload 2, .iadd, .goto_w 85]
noncomputable def am_B201_85 : List Instr := [.ret 0]
noncomputable def am_t201 : List (Nat × List Instr) := [(0, am_B201_0), (18, am_B201_18), (24, am_B201_24), (68, am_B201_68), (82, am_B201_82), (85, am_B201_85)]
noncomputable def am_B202_0 : List Instr := [.aload 0, .getfield 129, .aload 0, .getfield 128, .invokeinterface 81 2, .aload 0, .ldc 1, .putfield 134, .ldc 1, .ret 0]
noncomputable def am_t202 : List (Nat × List Instr) := [(0, am_B202_0)]
noncomputable def am_B203_0 : List Instr := [.aload 0, .getfield 160, .aload 0, .getfield 161, .invokeinterface 85 2, .aload 0, .ldc 1, .putfield 163, .ldc 1, .ret 0]
noncomputable def am_t203 : List (Nat × List Instr) := [(0, am_B203_0)]
noncomputable def am_B204_0 : List Instr := [.aload 0, .getfield 134, .ifCond .ne 14, .aload 0, .sipush (-1000004), .invokeinterface 12 2, .ret 0]
noncomputable def am_B204_14 : List Instr := [.aload 0, .getfield 128, .aload 0, .getfield 129, .invokeinterface 81 2, .aload 0, .getfield 128, .getfield 104, .ret 0]
noncomputable def am_t204 : List (Nat × List Instr) := [(0, am_B204_0), (14, am_B204_14)]
noncomputable def am_B205_0 : List Instr := [.aload 0, .getfield 163, .ifCond .ne 14, .aload 0, .sipush (-1000004), .invokeinterface 18 2, .ret 0]
noncomputable def am_B205_14 : List Instr := [.aload 0, .getfield 161, .aload 0, .getfield 160, .invokeinterface 85 2, .aload 0, .getfield 160, .ldc 0, .iaload, .ret 0]
noncomputable def am_t205 : List (Nat × List Instr) := [(0, am_B205_0), (14, am_B205_14)]
noncomputable def am_B206_0 : List Instr := [.aload 0, .getfield 134, .ifCond .eq 11, .ldc 1, .goto 12]
noncomputable def am_B206_11 : List Instr := [.ldc 0, .goto_w 12]
noncomputable def am_B206_12 : List Instr := [.istore 1, .aload 0, .ldc 0, .putfield 134, .iload 1, .ret 0]
noncomputable def am_t206 : List (Nat × List Instr) := [(0, am_B206_0), (11, am_B206_11), (12, am_B206_12)]
noncomputable def am_B207_0 : List Instr := [.aload 0, .getfield 163, .ifCond .eq 11, .ldc 1, .goto 12]
noncomputable def am_B207_11 : List Instr := [.ldc 0, .goto_w 12]
noncomputable def am_B207_12 : List Instr := [.istore 1, .aload 0, .ldc 0, .putfield 163, .iload 1, .ret 0]
noncomputable def am_t207 : List (Nat × List Instr) := [(0, am_B207_0), (11, am_B207_11), (12, am_B207_12)]
noncomputable def am_B208_0 : List Instr := [.aload 0, .getfield 128, .invokeinterface 20 1, .iload 1, .tableswitch 129 0 7 #[56, 64, 72, 83, 94, 102, 113, 121]]
noncomputable def am_B208_56 : List Instr := [.aload 0, .getfield 128, .getfield 104, .ret 0]
noncomputable def am_B208_64 : List Instr := [.aload 0, .getfield 128, .getfield 103, .ret 0]
noncomputable def am_B208_72 : List Instr := [.aload 0, .getfield 128, .invokeinterface 71 1, .invokeinterface 1 1, .ret 0]
noncomputable def am_B208_83 : List Instr := [.aload 0, .getfield 128, .invokeinterface 72 1, .invokeinterface 1 1, .ret 0]
noncomputable def am_B208_94 : List Instr := [.aload 0, .getfield 128, .invokeinterface 65 1, .ret 0]
noncomputable def am_B208_102 : List Instr := [.aload 0, .getfield 131, .getfield 64, .getfield 33, .ret 0]
noncomputable def am_B208_113 : List Instr := [.aload 0, .getfield 128, .getfield 105, .ret 0]
noncomputable def am_B208_121 : List Instr := [.aload 0, .getfield 128, .invokeinterface 209 1, .ret 0]
noncomputable def am_B208_129 : List Instr := [.aload 0, .sipush (-1000001), .invokeinterface 12 2, .ret 0]
noncomputable def am_t208 : List (Nat × List Instr) := [(0, am_B208_0), (56, am_B208_56), (64, am_B208_64), (72, am_B208_72), (83, am_B208_83), (94, am_B208_94), (102, am_B208_102), (113, am_B208_113), (121, am_B208_121), (129, am_B208_129)]
noncomputable def am_B209_0 : List Instr := [.ldc 0, .istore 1, .ldc 0, .istore 2, .goto_w 4]
noncomputable def am_B209_4 : List Instr := [.iload 2, .ldc 10, .if_icmp .ge 34, .iload 1, .aload 0, .getfield 102, .iload 2, .iaload, .sipush (-1), .if_icmp .eq 25, .ldc 1, .goto 26]
noncomputable def am_B209_25 : List Instr := [.ldc 0, .goto_w 26]
noncomputable def am_B209_26 : List Instr := [.iadd, .istore 1, .iinc 2 1, .goto 4]
noncomputable def am_B209_34 : List Instr := [.iload 1, .ret 0]
noncomputable def am_t209 : List (Nat × List Instr) := [(0, am_B209_0), (4, am_B209_4), (25, am_B209_25), (26, am_B209_26), (34, am_B209_34)]
noncomputable def am_B210_0 : List Instr := [.ldc 0, .istore 2, .iload 1, .tableswitch 130 0 7 #[48, 55, 62, 70, 78, 83, 88, 95]]
noncomputable def am_B210_48 : List Instr := [.aload 0, .getfield 160, .ldc 0, .iaload, .ret 0]
noncomputable def am_B210_55 : List Instr := [.aload 0, .getfield 160, .ldc 1, .iaload, .ret 0]
noncomputable def am_B210_62 : List Instr := [.aload 0, .invokeinterface 76 1, .invokeinterface 33 1, .ret 0]
noncomputable def am_B210_70 : List Instr := [.aload 0, .invokeinterface 77 1, .invokeinterface 33 1, .ret 0]
noncomputable def am_B210_78 : List Instr := [.aload 0, .invokeinterface 69 1, .ret 0]
noncomputable def am_B210_83 : List Instr := [.aload 0, .getfield 169, .ret 0]
noncomputable def am_B210_88 : List Instr := [.aload 0, .getfield 160, .ldc 2, .iaload, .ret 0]
noncomputable def am_B210_95 : List Instr := [.ldc 0, .istore 3, .goto_w 97]
noncomputable def am_B210_97 : List Instr := [.iload 3, .ldc 10, .if_icmp .ge 128, .iload 2, .aload 0, .getfield 160, .ldc 3, .iload 3, .iadd, .iaload, .ifCond .ge 119, .ldc 0, .goto 120]
noncomputable def am_B210_119 : List Instr := [.ldc 1, .goto_w 120]
noncomputable def am_B210_120 : List Instr := [.iadd, .istore 2, .iinc 3 1, .goto 97]
noncomputable def am_B210_128 : List Instr := [.iload 2, .ret 0]
noncomputable def am_B210_130 : List Instr := [.aload 0, .sipush (-1000001), .invokeinterface 18 2, .ret 0]
noncomputable def am_t210 : List (Nat × List Instr) := [(0, am_B210_0), (48, am_B210_48), (55, am_B210_55), (62, am_B210_62), (70, am_B210_70), (78, am_B210_78), (83, am_B210_83), (88, am_B210_88), (95, am_B210_95), (97, am_B210_97), (119, am_B210_119), (120, am_B210_120), (128, am_B210_128), (130, am_B210_130)]
noncomputable def am_B211_0 : List Instr := [.iload 1, .sipush (-1), .ldc 6, .invokeinterface 11 3, .ifCond .ne 17, .aload 0, .sipush (-1000001), .invokeinterface 12 2, .ret 0]
noncomputable def am_B211_17 : List Instr := [.iload 1, .ifCond .lt 28, .aload 0, .getfield 133, .iload 1, .iaload, .ret 0]
noncomputable def am_B211_28 : List Instr := [.ldc 0, .istore 2, .ldc 0, .istore 3, .goto_w 32]
noncomputable def am_B211_32 : List Instr := [.iload 3, .ldc 7, .if_icmp .ge 53, .iload 2, .aload 0, .getfield 133, .iload 3, .iaload, .iadd, .istore 2, .iinc 3 1, .goto 32]
noncomputable def am_B211_53 : List Instr := [.iload 2, .ret 0]
noncomputable def am_t211 : List (Nat × List Instr) := [(0, am_B211_0), (17, am_B211_17), (28, am_B211_28), (32, am_B211_32), (53, am_B211_53)]
noncomputable def am_B212_0 : List Instr := [.iload 1, .sipush (-1), .ldc 6, .invokeinterface 15 3, .ifCond .eq 21, .aload 0, .getfield 164, .iload 1, .ldc 1, .iadd, .iaload, .goto 27]
noncomputable def am_B212_21 : List Instr := [.aload 0, .sipush (-1000001), .invokeinterface 18 2, .goto_w 27]
noncomputable def am_B212_27 : List Instr := [.ret 0]
noncomputable def am_t212 : List (Nat × List Instr) := [(0, am_B212_0), (21, am_B212_21), (27, am_B212_27)]
noncomputable def am_B213_18 : List Instr := [.iload 3, .aload 0, .arraylength, .ldc 6, .isub, .if_icmp .gt 1466, .aload 0, .iload 3, .iaload, .ldc 63, .iand, .tableswitch 1460 0 42 #[220, 253, 286, 319, 352, 395, 428, 461, 484, 507, 540, 573, 586, 599, 632, 675, 708, 741, 774, 807, 840, 873, 886, 909, 942, 975, 998, 1032, 1055, 1088, 1101, 1114, 1147, 1180, 1223, 1266, 1329, 1352, 1375, 1388, 1401, 1414, 1437]]
noncomputable def am_B213_220 : List Instr := [.aload 1, .aload 0, .iload 3, .ldc 1, .iadd, .iaload, .aload 0, .iload 3, .ldc 2, .iadd, .iaload, .invokeinterface 9 3, .aload 2, .aload 0, .iload 3, .ldc 1, .iadd, .iaload, .aload 0, .iload 3, .ldc 2, .iadd, .iaload, .invokeinterface 13 3, .if_icmp .eq 1460, .ldc 0, .ret 1]
noncomputable def am_B213_253 : List Instr := [.aload 1, .aload 0, .iload 3, .ldc 1, .iadd, .iaload, .aload 0, .iload 3, .ldc 2, .iadd, .iaload, .invokeinterface 19 3, .aload 2, .aload 0, .iload 3, .ldc 1, .iadd, .iaload, .aload 0, .iload 3, .ldc 2, .iadd, .iaload, .invokeinterface 25 3, .if_icmp .eq 1460, .ldc 0, .ret 1]
noncomputable def am_B213_286 : List Instr := [.aload 1, .aload 0, .iload 3, .ldc 1, .iadd, .iaload, .aload 0, .iload 3, .ldc 2, .iadd, .iaload, .invokeinterface 37 3, .aload 2, .aload 0, .iload 3, .ldc 1, .iadd, .iaload, .aload 0, .iload 3, .ldc 2, .iadd, .iaload, .invokeinterface 40 3, .if_icmp .eq 1460, .ldc 0, .ret 1]
noncomputable def am_B213_319 : List Instr := [.aload 1, .aload 0, .iload 3, .ldc 1, .iadd, .iaload, .aload 0, .iload 3, .ldc 2, .iadd, .iaload, .invokeinterface 43 3, .aload 2, .aload 0, .iload 3, .ldc 1, .iadd, .iaload, .aload 0, .iload 3, .ldc 2, .iadd, .iaload, .invokeinterface 49 3, .if_icmp .eq 1460, .ldc 0, .ret 1]
noncomputable def am_B213_352 : List Instr := [.aload 1, .aload 0, .iload 3, .ldc 1, .iadd, .iaload, .aload 0, .iload 3, .ldc 2, .iadd, .iaload, .aload 0, .iload 3, .ldc 3, .iadd, .iaload, .invokeinterface 52 4, .aload 2, .aload 0, .iload 3, .ldc 1, .iadd, .iaload, .aload 0, .iload 3, .ldc 2, .iadd, .iaload, .aload 0, .iload 3, .ldc 3, .iadd, .iaload, .invokeinterface 55 4, .if_icmp .eq 1460, .ldc 0, .ret 1]
noncomputable def am_B213_395 : List Instr := [.aload 1, .aload 0, .iload 3, .ldc 1, .iadd, .iaload, .aload 0, .iload 3, .ldc 2, .iadd, .iaload, .invokeinterface 57 3, .aload 2, .aload 0, .iload 3, .ldc 1, .iadd, .iaload, .aload 0, .iload 3, .ldc 2, .iadd, .iaload, .invokeinterface 60 3, .if_icmp .eq 1460, .ldc 0, .ret 1]
noncomputable def am_B213_428 : List Instr := [.aload 1, .aload 0, .iload 3, .ldc 1, .iadd, .iaload, .aload 0, .iload 3, .ldc 2, .iadd, .iaload, .invokeinterface 61 3, .aload 2, .aload 0, .iload 3, .ldc 1, .iadd, .iaload, .aload 0, .iload 3, .ldc 2, .iadd, .iaload, .invokeinterface 62 3, .if_icmp .eq 1460, .ldc 0, .ret 1]
noncomputable def am_B213_461 : List Instr := [.aload 1, .aload 0, .iload 3, .ldc 1, .iadd, .iaload, .invokeinterface 63 2, .aload 2, .aload 0, .iload 3, .ldc 1, .iadd, .iaload, .invokeinterface 66 2, .if_icmp .eq 1460, .ldc 0, .ret 1]
noncomputable def am_B213_484 : List Instr := [.aload 1, .aload 0, .iload 3, .ldc 1, .iadd, .iaload, .invokeinterface 70 2, .aload 2, .aload 0, .iload 3, .ldc 1, .iadd, .iaload, .invokeinterface 75 2, .if_icmp .eq 1460, .ldc 0, .ret 1]
noncomputable def am_B213_507 : List Instr := [.aload 1, .aload 0, .iload 3, .ldc 1, .iadd, .iaload, .aload 0, .iload 3, .ldc 2, .iadd, .iaload, .invokeinterface 80 3, .aload 2, .aload 0, .iload 3, .ldc 1, .iadd, .iaload, .aload 0, .iload 3, .ldc 2, .iadd, .iaload, .invokeinterface 82 3, .if_icmp .eq 1460, .ldc 0, .ret 1]
noncomputable def am_B213_540 : List Instr := [.aload 1, .aload 0, .iload 3, .ldc 1, .iadd, .iaload, .aload 0, .iload 3, .ldc 2, .iadd, .iaload, .invokeinterface 87 3, .aload 2, .aload 0, .iload 3, .ldc 1, .iadd, .iaload, .aload 0, .iload 3, .ldc 2, .iadd, .iaload, .invokeinterface 88 3, .if_icmp .eq 1460, .ldc 0, .ret 1]
noncomputable def am_B213_573 : List Instr := [.aload 1, .invokeinterface 89 1, .aload 2, .invokeinterface 90 1, .if_icmp .eq 1460, .ldc 0, .ret 1]
noncomputable def am_B213_586 : List Instr := [.aload 1, .invokeinterface 92 1, .aload 2, .invokeinterface 94 1, .if_icmp .eq 1460, .ldc 0, .ret 1]
noncomputable def am_B213_599 : List Instr := [.aload 1, .aload 0, .iload 3, .ldc 1, .iadd, .iaload, .aload 0, .iload 3, .ldc 2, .iadd, .iaload, .invokeinterface 96 3, .aload 2, .aload 0, .iload 3, .ldc 1, .iadd, .iaload, .aload 0, .iload 3, .ldc 2, .iadd, .iaload, .invokeinterface 97 3, .if_icmp .eq 1460, .ldc 0, .ret 1]
noncomputable def am_B213_632 : List Instr := [.aload 1, .aload 0, .iload 3, .ldc 1, .iadd, .iaload, .aload 0, .iload 3, .ldc 2, .iadd, .iaload, .aload 0, .iload 3, .ldc 3, .iadd, .iaload, .invokeinterface 99 4, .aload 2, .aload 0, .iload 3, .ldc 1, .iadd, .iaload, .aload 0, .iload 3, .ldc 2, .iadd, .iaload, .aload 0, .iload 3, .ldc 3, .iadd, .iaload, .invokeinterface 100 4, .if_icmp .eq 1460, .ldc 0, .ret 1]
noncomputable def am_B213_675 : List Instr := [.aload 1, .aload 0, .iload 3, .ldc 1, .iadd, .iaload, .aload 0, .iload 3, .ldc 2, .iadd, .iaload, .invokeinterface 101 3, .aload 2, .aload 0, .iload 3, .ldc 1, .iadd, .iaload, .aload 0, .iload 3, .ldc 2, .iadd, .iaload, .invokeinterface 103 3, .if_icmp .eq 1460, .ldc 0, .ret 1]
noncomputable def am_B213_708 : List Instr := [.aload 1, .aload 0, .iload 3, .ldc 1, .iadd, .iaload, .aload 0, .iload 3, .ldc 2, .iadd, .iaload, .invokeinterface 106 3, .aload 2, .aload 0, .iload 3, .ldc 1, .iadd, .iaload, .aload 0, .iload 3, .ldc 2, .iadd, .iaload, .invokeinterface 107 3, .if_icmp .eq 1460, .ldc 0, .ret 1]
noncomputable def am_B213_741 : List Instr := [.aload 1, .aload 0, .iload 3, .ldc 1, .iadd, .iaload, .aload 0, .iload 3, .ldc 2, .iadd, .iaload, .invokeinterface 108 3, .aload 2, .aload 0, .iload 3, .ldc 1, .iadd, .iaload, .aload 0, .iload 3, .ldc 2, .iadd, .iaload, .invokeinterface 109 3, .if_icmp .eq 1460, .ldc 0, .ret 1]
noncomputable def am_B213_774 : List Instr := [.aload 1, .aload 0, .iload 3, .ldc 1, .iadd, .iaload, .aload 0, .iload 3, .ldc 2, .iadd, .iaload, .invokeinterface 110 3, .aload 2, .aload 0, .iload 3, .ldc 1, .iadd, .iaload, .aload 0, .iload 3, .ldc 2, .iadd, .iaload, .invokeinterface 111 3, .if_icmp .eq 1460, .ldc 0, .ret 1]
noncomputable def am_B213_807 : List Instr := [.aload 1, .aload 0, .iload 3, .ldc 1, .iadd, .iaload, .aload 0, .iload 3, .ldc 2, .iadd, .iaload, .invokeinterface 112 3, .aload 2, .aload 0, .iload 3, .ldc 1, .iadd, .iaload, .aload 0, .iload 3, .ldc 2, .iadd, .iaload, .invokeinterface 113 3, .if_icmp .eq 1460, .ldc 0, .ret 1]
noncomputable def am_B213_840 : List Instr := [.aload 1, .aload 0, .iload 3, .ldc 1, .iadd, .iaload, .aload 0, .iload 3, .ldc 2, .iadd, .iaload, .invokeinterface 115 3, .aload 2, .aload 0, .iload 3, .ldc 1, .iadd, .iaload, .aload 0, .iload 3, .ldc 2, .iadd, .iaload, .invokeinterface 117 3, .if_icmp .eq 1460, .ldc 0, .ret 1]
noncomputable def am_B213_873 : List Instr := [.aload 1, .invokeinterface 120 1, .aload 2, .invokeinterface 121 1, .if_icmp .eq 1460, .ldc 0, .ret 1]
noncomputable def am_B213_886 : List Instr := [.aload 1, .aload 0, .iload 3, .ldc 1, .iadd, .iaload, .invokeinterface 123 2, .aload 2, .aload 0, .iload 3, .ldc 1, .iadd, .iaload, .invokeinterface 125 2, .if_icmp .eq 1460, .ldc 0, .ret 1]
noncomputable def am_B213_909 : List Instr := [.aload 1, .aload 0, .iload 3, .ldc 1, .iadd, .iaload, .aload 0, .iload 3, .ldc 2, .iadd, .iaload, .invokeinterface 127 3, .aload 2, .aload 0, .iload 3, .ldc 1, .iadd, .iaload, .aload 0, .iload 3, .ldc 2, .iadd, .iaload, .invokeinterface 132 3, .if_icmp .eq 1460, .ldc 0, .ret 1]
noncomputable def am_B213_942 : List Instr := [.aload 1, .aload 0, .iload 3, .ldc 1, .iadd, .iaload, .aload 0, .iload 3, .ldc 2, .iadd, .iaload, .invokeinterface 137 3, .aload 2, .aload 0, .iload 3, .ldc 1, .iadd, .iaload, .aload 0, .iload 3, .ldc 2, .iadd, .iaload, .invokeinterface 138 3, .if_icmp .eq 1460, .ldc 0, .ret 1]
noncomputable def am_B213_975 : List Instr := [.aload 1, .aload 0, .iload 3, .ldc 1, .iadd, .iaload, .invokeinterface 139 2, .aload 2, .aload 0, .iload 3, .ldc 1, .iadd, .iaload, .invokeinterface 141 2, .if_icmp .eq 1460, .ldc 0, .ret 1]
noncomputable def am_B213_998 : List Instr := [.aload 1, .aload 0, .iload 3, .ldc 1, .iadd, .iaload, .aload 0, .iload 3, .ldc 2, .iadd, .iaload, .invokeinterface 143 3, .aload 2, .aload 0, .iload 3, .ldc 1, .iadd, .iaload, .aload 0, .iload 3, .ldc 2, .iadd, .iaload, .invokeinterface 145 3, .lcmp, .ifCond .eq 1460, .ldc 0, .ret 1]
noncomputable def am_B213_1032 : List Instr := [.aload 1, .aload 0, .iload 3, .ldc 1, .iadd, .iaload, .invokeinterface 146 2, .aload 2, .aload 0, .iload 3, .ldc 1, .iadd, .iaload, .invokeinterface 147 2, .if_icmp .eq 1460, .ldc 0, .ret 1]
noncomputable def am_B213_1055 : List Instr := [.aload 1, .aload 0, .iload 3, .ldc 1, .iadd, .iaload, .aload 0, .iload 3, .ldc 2, .iadd, .iaload, .invokeinterface 148 3, .aload 2, .aload 0, .iload 3, .ldc 1, .iadd, .iaload, .aload 0, .iload 3, .ldc 2, .iadd, .iaload, .invokeinterface 150 3, .if_icmp .eq 1460, .ldc 0, .ret 1]
noncomputable def am_B213_1088 : List Instr := [.aload 1, .invokeinterface 151 1, .aload 2, .invokeinterface 152 1, .if_icmp .eq 1460, .ldc 0, .ret 1]
noncomputable def am_B213_1101 : List Instr := [.aload 1, .invokeinterface 153 1, .aload 2, .invokeinterface 168 1, .if_icmp .eq 1460, .ldc 0, .ret 1]
noncomputable def am_B213_1114 : List Instr := [.aload 1, .aload 0, .iload 3, .ldc 1, .iadd, .iaload, .aload 0, .iload 3, .ldc 2, .iadd, .iaload, .invokeinterface 179 3, .aload 2, .aload 0, .iload 3, .ldc 1, .iadd, .iaload, .aload 0, .iload 3, .ldc 2, .iadd, .iaload, .invokeinterface 181 3, .if_icmp .eq 1460, .ldc 0, .ret 1]
noncomputable def am_B213_1147 : List Instr := [.aload 1, .aload 0, .iload 3, .ldc 1, .iadd, .iaload, .aload 0, .iload 3, .ldc 2, .iadd, .iaload, .invokeinterface 183 3, .aload 2, .aload 0, .iload 3, .ldc 1, .iadd, .iaload, .aload 0, .iload 3, .ldc 2, .iadd, .iaload, .invokeinterface 185 3, .if_icmp .eq 1460, .ldc 0, .ret 1]
noncomputable def am_B213_1180 : List Instr := [.aload 1, .aload 0, .iload 3, .ldc 1, .iadd, .iaload, .aload 0, .iload 3, .ldc 2, .iadd, .iaload, .aload 0, .iload 3, .ldc 3, .iadd, .iaload, .invokeinterface 188 4, .aload 2, .aload 0, .iload 3, .ldc 1, .iadd, .iaload, .aload 0, .iload 3, .ldc 2, .iadd, .iaload, .aload 0, .iload 3, .ldc 3, .iadd, .iaload, .invokeinterface 190 4, .if_icmp .eq 1460, .ldc 0, .ret 1]
noncomputable def am_B213_1223 : List Instr := [.aload 1, .aload 0, .iload 3, .ldc 1, .iadd, .iaload, .aload 0, .iload 3, .ldc 2, .iadd, .iaload, .aload 0, .iload 3, .ldc 3, .iadd, .iaload, .invokeinterface 191 4, .aload 2, .aload 0, .iload 3, .ldc 1, .iadd, .iaload, .aload 0, .iload 3, .ldc 2, .iadd, .iaload, .aload 0, .iload 3, .ldc 3, .iadd, .iaload, .invokeinterface 194 4, .if_icmp .eq 1460, .ldc 0, .ret 1]
noncomputable def am_B213_1266 : List Instr := [.aload 1, .aload 0, .iload 3, .ldc 1, .iadd, .iaload, .aload 0, .iload 3, .ldc 2, .iadd, .iaload, .aload 0, .iload 3, .ldc 3, .iadd, .iaload, .aload 0, .iload 3, .ldc 4, .iadd, .iaload, .aload 0, .iload 3, .ldc 5, .iadd, .iaload, .invokeinterface 196 6, .aload 2, .aload 0, .iload 3, .ldc 1, .iadd, .iaload, .aload 0, .iload 3, .ldc 2, .iadd, .iaload, .aload 0, .iload 3, .ldc 3, .iadd, .iaload, .aload 0, .iload 3, .ldc 4, .iadd, .iaload, .aload 0, .iload 3, .ldc 5, .iadd, .iaload, .invokeinterface 197 6, .if_icmp .eq 1460, .ldc 0, .ret 1]
noncomputable def am_B213_1329 : List Instr := [.aload 1, .aload 0, .iload 3, .ldc 1, .iadd, .iaload, .invokeinterface 198 2, .aload 2, .aload 0, .iload 3, .ldc 1, .iadd, .iaload, .invokeinterface 199 2, .if_icmp .eq 1460, .ldc 0, .ret 1]
noncomputable def am_B213_1352 : List Instr := [.aload 1, .aload 0, .iload 3, .ldc 1, .iadd, .iaload, .invokeinterface 200 2, .aload 2, .aload 0, .iload 3, .ldc 1, .iadd, .iaload, .invokeinterface 201 2, .if_icmp .eq 1460, .ldc 0, .ret 1]
noncomputable def am_B213_1375 : List Instr := [.aload 1, .invokeinterface 202 1, .aload 2, .invokeinterface 203 1, .if_icmp .eq 1460, .ldc 0, .ret 1]
noncomputable def am_B213_1388 : List Instr := [.aload 1, .invokeinterface 204 1, .aload 2, .invokeinterface 205 1, .if_icmp .eq 1460, .ldc 0, .ret 1]
noncomputable def am_B213_1401 : List Instr := [.aload 1, .invokeinterface 206 1, .aload 2, .invokeinterface 207 1, .if_icmp .eq 1460, .ldc 0, .ret 1]
noncomputable def am_B213_1414 : List Instr := [.aload 1, .aload 0, .iload 3, .ldc 1, .iadd, .iaload, .invokeinterface 208 2, .aload 2, .aload 0, .iload 3, .ldc 1, .iadd, .iaload, .invokeinterface 210 2, .if_icmp .eq 1460, .ldc 0, .ret 1]
noncomputable def am_B213_1437 : List Instr := [.aload 1, .aload 0, .iload 3, .ldc 1, .iadd, .iaload, .invokeinterface 211 2, .aload 2, .aload 0, .iload 3, .ldc 1, .iadd, .iaload, .invokeinterface 212 2, .if_icmp .eq 1460, .ldc 0, .ret 1]
noncomputable def am_B213_1460 : List Instr := [.iinc 3 6, .goto 18]
noncomputable def am_B213_1466 : List Instr := [.ldc 1, .ret 1]
noncomputable def am_t213 : List (Nat × List Instr) := [(18, am_B213_18), (220, am_B213_220), (253, am_B213_253), (286, am_B213_286), (319, am_B213_319), (352, am_B213_352), (395, am_B213_395), (428, am_B213_428), (461, am_B213_461), (484, am_B213_484), (507, am_B213_507), (540, am_B213_540), (573, am_B213_573), (586, am_B213_586), (599, am_B213_599), (632, am_B213_632), (675, am_B213_675), (708, am_B213_708), (741, am_B213_741), (774, am_B213_774), (807, am_B213_807), (840, am_B213_840), (873, am_B213_873), (886, am_B213_886), (909, am_B213_909), (942, am_B213_942), (975, am_B213_975), (998, am_B213_998), (1032, am_B213_1032), (1055, am_B213_1055), (1088, am_B213_1088), (1101, am_B213_1101), (1114, am_B213_1114), (1147, am_B213_1147), (1180, am_B213_1180), (1223, am_B213_1223), (1266, am_B213_1266), (1329, am_B213_1329), (1352, am_B213_1352), (1375, am_B213_1375), (1388, am_B213_1388), (1401, am_B213_1401), (1414, am_B213_1414), (1437, am_B213_1437), (1460, am_B213_1460), (1466, am_B213_1466)]
noncomputable def am_tL : List (List (Nat × List Instr)) := [am_t0, am_t1, am_t2, am_t3, am_t4, am_t5, am_t6, am_t7, am_t8, am_t9, am_t10, am_t11, am_t12, am_t13, am_t14, am_t15, 
  am_t16, am_t17, am_t18, am_t19, am_t20, am_t21, am_t22, am_t23, am_t24, am_t25, am_t26, am_t27, am_t28, am_t29, am_t30, am_t31, am_t32, am_t33, am_t34, am_t35, am_t36, am_t37, 
  am_t38, am_t39, am_t40, am_t41, am_t42, am_t43, am_t44, am_t45, am_t46, am_t47, am_t48, am_t49, am_t50, am_t51, am_t52, am_t53, am_t54, am_t55, am_t56, am_t57, am_t58, am_t59, 
  am_t60, am_t61, am_t62, am_t63, am_t64, am_t65, am_t66, am_t67, am_t68, am_t69, am_t70, am_t71, am_t72, am_t73, am_t74, am_t75, am_t76, am_t77, am_t78, am_t79, am_t80, am_t81, 
  am_t82, am_t83, am_t84, am_t85, am_t86, am_t87, am_t88, am_t89, am_t90, am_t91, am_t92, am_t93, am_t94, am_t95, am_t96, am_t97, am_t98, am_t99, am_t100, am_t101, am_t102, 
  am_t103, am_t104, am_t105, am_t106, am_t107, am_t108, am_t109, am_t110, am_t111, am_t112, am_t113, am_t114, am_t115, am_t116, am_t117, am_t118, am_t119, am_t120, am_t121, 
  am_t122, am_t123, am_t124, am_t125, am_t126, am_t127, am_t128, am_t129, am_t130, am_t131, am_t132, am_t133, am_t134, am_t135, am_t136, am_t137, am_t138, am_t139, am_t140, 
  am_t141, am_t142, am_t143, am_t144, am_t145, am_t146, am_t147, am_t148, am_t149, am_t150, am_t151, am_t152, am_t153, am_t154, am_t155, am_t156, am_t157, am_t158, am_t159, 
  am_t160, am_t161, am_t162, am_t163, am_t164, am_t165, am_t166, am_t167, am_t168, am_t169, am_t170, am_t171, am_t172, am_t173, am_t174, am_t175, am_t176, am_t177, am_t178, 
  am_t179, am_t180, am_t181, am_t182, am_t183, am_t184, am_t185, am_t186, am_t187, am_t188, am_t189, am_t190, am_t191, am_t192, am_t193, am_t194, am_t195, am_t196, am_t197, 
  am_t198, am_t199, am_t200, am_t201, am_t202, am_t203, am_t204, am_t205, am_t206, am_t207, am_t208, am_t209, am_t210, am_t211, am_t212, am_t213]
def am_mxL : List Nat := [4, 1, 1, 1, 2, 1, 2, 2, 3, 4, 1, 3, 3, 3, 1, 3, 1, 4, 2, 3, 3, 8, 9, 4, 4, 3, 2, 5, 3, 2, 5, 3, 4, 3, 6, 3, 4, 4, 1, 4, 3, 1, 6, 3, 2, 3, 3, 2, 4, 3, 2, 
  4, 5, 4, 4, 4, 4, 3, 3, 3, 3, 3, 3, 2, 4, 3, 2, 3, 3, 3, 2, 3, 3, 3, 3, 2, 3, 3, 3, 3, 3, 2, 3, 1, 3, 3, 2, 3, 3, 2, 2, 2, 2, 3, 2, 3, 4, 4, 3, 7, 8, 3, 7, 3, 3, 11, 3, 3, 3, 3, 
  3, 3, 4, 6, 2, 6, 4, 6, 4, 2, 5, 5, 2, 7, 4, 7, 5, 3, 6, 1, 1, 7, 3, 2, 1, 8, 6, 3, 3, 5, 1, 4, 1, 6, 5, 9, 3, 2, 4, 2, 4, 2, 2, 2, 1, 1, 2, 1, 1, 3, 3, 2, 2, 2, 1, 2, 5, 1, 3, 
  2, 2, 4, 3, 4, 2, 4, 4, 6, 4, 3, 1, 3, 1, 4, 4, 4, 3, 1, 4, 3, 5, 4, 3, 3, 4, 2, 8, 7, 4, 3, 4, 3, 1, 1, 1, 1, 2, 2, 2, 3, 4, 4, 2, 4]
def am_naL : List Nat := [2, 1, 1, 1, 2, 1, 2, 2, 3, 3, 1, 3, 2, 3, 1, 3, 1, 3, 2, 3, 1, 2, 3, 2, 2, 3, 1, 2, 3, 2, 3, 3, 2, 1, 4, 3, 2, 3, 1, 3, 3, 1, 5, 3, 2, 3, 2, 2, 2, 3, 2, 
  2, 4, 4, 4, 4, 4, 3, 3, 3, 3, 3, 3, 2, 2, 1, 2, 2, 1, 1, 2, 1, 1, 1, 1, 2, 1, 1, 1, 1, 3, 2, 3, 1, 3, 2, 2, 3, 3, 1, 1, 2, 1, 2, 1, 1, 3, 3, 3, 4, 4, 3, 4, 3, 3, 6, 3, 3, 3, 3, 
  3, 3, 3, 3, 2, 3, 3, 3, 3, 2, 1, 1, 2, 2, 4, 2, 4, 3, 4, 1, 1, 5, 3, 2, 1, 5, 3, 3, 3, 2, 1, 2, 1, 3, 2, 3, 2, 2, 3, 2, 3, 1, 1, 1, 1, 1, 1, 1, 1, 1, 2, 1, 2, 1, 1, 2, 5, 1, 1, 
  1, 2, 1, 1, 2, 2, 4, 3, 5, 2, 3, 1, 3, 1, 3, 2, 3, 2, 1, 4, 3, 4, 4, 3, 3, 4, 2, 6, 6, 2, 2, 2, 2, 1, 1, 1, 1, 1, 1, 2, 1, 2, 2, 2, 1]
def am_ownL : List Nat := [11, 10, 6, 6, 6, 6, 7, 6, 9, 4, 4, 4, 4, 5, 5, 5, 5, 5, 5, 4, 3, 3, 3, 3, 3, 5, 5, 5, 5, 5, 5, 5, 5, 5, 5, 5, 5, 4, 4, 3, 5, 5, 5, 4, 4, 3, 3, 4, 3, 5, 
  5, 5, 4, 3, 3, 5, 5, 4, 3, 3, 5, 4, 5, 4, 3, 3, 5, 5, 5, 5, 4, 3, 3, 3, 3, 5, 5, 5, 5, 5, 4, 3, 5, 5, 5, 5, 5, 4, 5, 4, 5, 5, 4, 3, 5, 5, 4, 5, 5, 4, 5, 4, 4, 5, 5, 5, 4, 5, 4, 
  5, 4, 5, 4, 5, 5, 4, 4, 5, 5, 5, 4, 5, 5, 4, 4, 5, 5, 4, 4, 4, 0, 4, 5, 5, 5, 5, 5, 4, 5, 4, 3, 5, 5, 4, 4, 5, 4, 5, 4, 1, 5, 4, 5, 4, 2, 1, 1, 1, 1, 2, 1, 2, 2, 2, 2, 2, 2, 2, 
  5, 5, 5, 5, 5, 5, 5, 5, 5, 5, 5, 4, 4, 5, 5, 4, 4, 5, 5, 5, 4, 0, 5, 4, 0, 0, 5, 5, 4, 5, 4, 5, 4, 5, 4, 5, 4, 5, 4, 5, 4, 3, 5, 4, 5, 14]
def am_statL : List Bool := [true, true, false, false, false, false, true, true, true, false, true, true, false, false, true, true, true, false, false, false, false, false, false, 
  false, false, false, false, false, false, true, false, false, false, true, false, false, false, false, true, false, false, true, false, false, false, false, false, true, false, 
  false, false, false, false, false, false, false, false, false, false, false, false, false, false, false, false, false, false, false, false, false, false, false, false, false, 
  false, false, false, false, false, false, false, false, false, true, false, true, false, false, false, false, false, false, false, false, false, false, false, false, false, 
  false, false, false, false, false, false, false, false, false, false, false, false, false, false, false, false, false, false, false, false, true, false, false, false, false, 
  false, false, false, false, false, true, false, false, false, false, true, false, false, false, false, false, false, false, false, false, true, false, false, false, false, 
  false, false, false, false, false, false, false, false, false, false, false, false, false, false, false, true, false, false, false, false, false, false, false, false, false, 
  false, false, false, false, false, false, true, false, true, false, true, false, true, true, false, false, false, false, false, false, false, true, false, false, false, false, 
  false, false, false, false, false, false, false, false, false, false, false, false, false, true]
end
section
/-! ===== a small machine of my own: values are numbers and places of objects, a world of fixed shape; what it runs, the machine runs (part 34) ===== -/
abbrev GG : Type := Nat → Nat → Int32
abbrev LV : Type := List (Option Value)
abbrev AmX : Type := Nat × (Nat → Int32)
abbrev AmR : Type := Option ((List Instr × LV × List Value × GG) ⊕ ((Option Value × GG) ⊕ (Nat × List Value × LV × List Value)))
def gset (G : GG) (k : Nat) (f : Nat → Int32) : GG := fun j => if j = k then f else G j
def am_sh (k : Nat) : List Nat := am_shl.getD k []
noncomputable def am_blk (k b : Nat) : List Instr := ((am_tL.getD k []).lookup b).getD []
def am_mx (k : Nat) : Nat := am_mxL.getD k 0
def am_own (k : Nat) : Nat := am_ownL.getD k 99
def am_stat (k : Nat) : Bool := am_statL.getD k false
def am_ci (n : Int) : Int32 := Int32.ofInt n
def am_ent (m : Nat) (args : List Value) : LV := args.map some ++ List.replicate (am_mx m - args.length) none
def am_clsof (o : Nat) : Nat := match am_sh o with
  | 1 :: ci :: _ => ci
  | _ => if 100 ≤ o ∧ o < 111 then 6 else 99
/-- fields -/
def am_gf (G : GG) (k f : Nat) : Option Value :=
  if f = 1000 then (if 100 ≤ k ∧ k < 111 then some (.ref (k + 100)) else none)
  else if f = 1001 then (if 100 ≤ k ∧ k < 111 then some (.int (nI 0)) else none)
  else match am_sh k with
    | 1 :: ci :: fs => if ci = f / 32 then (match fs[f % 32]? with
      | some 0 => some (.int (G k (f % 32)))
      | some (j + 1) => some (.ref j)
      | none => none) else none
    | _ => none
def am_isz (f : Nat) : Bool := f == 134 || f == 163 || f == 174
def am_pf (G : GG) (k f : Nat) (x : Int32) : Option GG := match am_sh k with
  | 1 :: ci :: fs => if ci = f / 32 ∧ fs[f % 32]? = some 0 then (if am_isz f = true → x = nI 0 ∨ x = nI 1 then some (gset G k (upd (G k) (f % 32) x)) else none) else none
  | _ => none
/-- arrays -/
def am_ald (X : AmX) (G : GG) (k : Nat) (i : Int32) : Option Int32 := match am_sh k with
  | [0, n] => if i < 0 ∨ n ≤ i.toNatClampNeg then none else some (G k i.toNatClampNeg)
  | _ => if k = 300 then (if i < 0 ∨ 7 ≤ i.toNatClampNeg then none else some (tt_above i.toNatClampNeg))
    else if k = 400 then (if i < 0 ∨ X.1 ≤ i.toNatClampNeg then none else some (X.2 i.toNatClampNeg)) else none
def am_ast (G : GG) (k : Nat) (i x : Int32) : Option GG := match am_sh k with
  | [0, n] => if i < 0 ∨ n ≤ i.toNatClampNeg then none else some (gset G k (upd (G k) i.toNatClampNeg x))
  | _ => none
def am_bld (k : Nat) (i : Int32) : Option Int32 := if 200 ≤ k ∧ k < 211 then (if i < 0 ∨ tt_len.getD (k - 200) 0 ≤ i.toNatClampNeg then none else some ((tt_byt.getD (k - 200) []).getD i.toNatClampNeg 0)) else none
def am_qld (k : Nat) (i : Int32) : Option Nat := match am_sh k with
  | 2 :: _ :: rs => if i < 0 then none else rs[i.toNatClampNeg]?
  | _ => none
def am_len (X : AmX) (k : Nat) : Option Nat := match am_sh k with
  | [0, n] => some n
  | 2 :: _ :: rs => some rs.length
  | _ => if k = 400 then some X.1 else if 200 ≤ k ∧ k < 211 then some (tt_len.getD (k - 200) 0) else none
def am_cpy (G : GG) (o1 : Nat) (sp : Int32) (o2 : Nat) (dp n : Int32) : Option GG := match am_sh o1, am_sh o2 with
  | [0, n1], [0, n2] => if ¬ sp < 0 ∧ ¬ dp < 0 ∧ ¬ n < 0 ∧ sp.toNatClampNeg + n.toNatClampNeg ≤ n1 ∧ dp.toNatClampNeg + n.toNatClampNeg ≤ n2 then some (gset G o2 (va_cpy (G o1) (G o2) sp.toNatClampNeg dp.toNatClampNeg n.toNatClampNeg)) else none
  | _, _ => none
/-- comparisons, switches -/
def am_cmp (c : Jvm.ClassFile.Cond) (x y : Int32) : Prop := match c with
  | .eq => x = y
  | .ne => ¬ x = y
  | .lt => x < y
  | .ge => y ≤ x
  | .gt => y < x
  | .le => x ≤ y
def am_cmpB (c : Jvm.ClassFile.Cond) (x y : Int32) : Bool := match c with
  | .eq => decide (x = y)
  | .ne => decide (¬ x = y)
  | .lt => decide (x < y)
  | .ge => decide (y ≤ x)
  | .gt => decide (y < x)
  | .le => decide (x ≤ y)
def am_sw (d lo hi : Int) (offs : Array Int) (x : Int32) : Int := if x.toInt < lo ∨ hi < x.toInt then d else offs.toList.getD (x.toInt - lo).toNat d
/-- one instruction -/
def am_push (r : List Instr) (lv : LV) (st : List Value) (G : GG) (v : Value) : AmR := some (.inl (r, lv, v :: st, G))
def am_nl (a : Option Value) : Bool := match a with
  | some v => v.category == 1
  | none => true
def am_ok1 (lv : LV) : Nat → Bool
  | 0 => decide (0 < lv.length)
  | j + 1 => decide (j + 1 < lv.length) && (match lv[j]? with
    | some a => am_nl a
    | none => false)
def am_ok2 (lv : LV) (j : Nat) : Bool := decide (j + 1 < lv.length) && am_ok1 lv j
def am_bin (f : Int32 → Int32 → Int32) (r : List Instr) (lv : LV) (st : List Value) (G : GG) : AmR := match st with
  | .int y :: .int x :: s => am_push r lv s G (.int (f x y))
  | _ => none
def am_binZ (f : Int32 → Int32 → Int32) (r : List Instr) (lv : LV) (st : List Value) (G : GG) : AmR := match st with
  | .int y :: .int x :: s => if y = nI 0 then none else am_push r lv s G (.int (f x y))
  | _ => none
def am_binL (f : Int64 → Int64 → Int64) (r : List Instr) (lv : LV) (st : List Value) (G : GG) : AmR := match st with
  | .long y :: .long x :: s => am_push r lv s G (.long (f x y))
  | _ => none
def am_un (f : Int32 → Int32) (r : List Instr) (lv : LV) (st : List Value) (G : GG) : AmR := match st with
  | .int x :: s => am_push r lv s G (.int (f x))
  | _ => none
def am_c1 (v : Value) : Bool := match v with
  | .int _ => true
  | .ref _ => true
  | _ => false
def am_rcv (m : Nat) (args : List Value) : Bool := args.all am_c1 && (am_stat m || match args with
  | .ref o :: _ => am_clsof o == am_own m
  | _ => false)
def am_opt {α : Type} (o : Option α) (f : α → AmR) : AmR := match o with
  | some x => f x
  | none => none
noncomputable def am_st (X : AmX) (k : Nat) (i : Instr) (r : List Instr) (lv : LV) (st : List Value) (G : GG) : AmR :=
  match i with
  | .ldc n => am_push r lv st G (.int (nI n))
  | .sipush n => am_push r lv st G (.int (am_ci n))
  | .ldc_w j => am_push r lv st G (.ref (100 + j))
  | .lconst n => am_push r lv st G (.long (Int64.ofNat n.val))
  | .iload j => (match lv[j]? with
    | some (some (.int x)) => am_push r lv st G (.int x)
    | _ => none)
  | .aload j => (match lv[j]? with
    | some (some (.ref x)) => if x < 500 then am_push r lv st G (.ref x) else none
    | _ => none)
  | .lload j => (match lv[j]? with
    | some (some (.long x)) => am_push r lv st G (.long x)
    | _ => none)
  | .istore j => (match st with
    | .int x :: s => if am_ok1 lv j = true then some (.inl (r, lv.set j (some (.int x)), s, G)) else none
    | _ => none)
  | .astore j => (match st with
    | .ref x :: s => if am_ok1 lv j = true ∧ x < 500 then some (.inl (r, lv.set j (some (.ref x)), s, G)) else none
    | _ => none)
  | .lstore j => (match st with
    | .long x :: s => if am_ok2 lv j = true then some (.inl (r, (lv.set j (some (.long x))).set (j + 1) none, s, G)) else none
    | _ => none)
  | .iinc j n => (match lv[j]? with
    | some (some (.int x)) => if am_ok1 lv j = true then some (.inl (r, lv.set j (some (.int (x + am_ci n))), st, G)) else none
    | _ => none)
  | .iadd => am_bin (fun x y => x + y) r lv st G
  | .isub => am_bin (fun x y => x - y) r lv st G
  | .imul => am_bin (fun x y => x * y) r lv st G
  | .iand => am_bin (fun x y => x &&& y) r lv st G
  | .ior => am_bin (fun x y => x ||| y) r lv st G
  | .ixor => am_bin (fun x y => x ^^^ y) r lv st G
  | .ishl => am_bin (fun x y => x <<< (y &&& 31)) r lv st G
  | .ishr => am_bin (fun x y => x >>> (y &&& 31)) r lv st G
  | .iushr => am_bin (fun x y => (x.toUInt32 >>> (y.toUInt32 &&& Int32.toUInt32 31)).toInt32) r lv st G
  | .idiv => am_binZ (fun x y => x / y) r lv st G
  | .irem => am_binZ (fun x y => x - x / y * y) r lv st G
  | .ineg => am_un (fun x => -x) r lv st G
  | .i2b => am_un (fun x => x.toInt8.toInt32) r lv st G
  | .i2s => am_un (fun x => x.toInt16.toInt32) r lv st G
  | .i2c => am_un (fun x => (x.toUInt32 % 65536).toInt32) r lv st G
  | .i2l => (match st with
    | .int x :: s => am_push r lv s G (.long x.toInt64)
    | _ => none)
  | .ladd => am_binL (fun x y => x + y) r lv st G
  | .lmul => am_binL (fun x y => x * y) r lv st G
  | .lcmp => (match st with
    | .long y :: .long x :: s => am_push r lv s G (.int (lg_cmp x y))
    | _ => none)
  | .dup => (match st with
    | v :: s => if am_c1 v = true then some (.inl (r, lv, v :: v :: s, G)) else none
    | _ => none)
  | .dup2 => (match st with
    | v :: w :: s => if am_c1 v = true ∧ am_c1 w = true then some (.inl (r, lv, v :: w :: v :: w :: s, G)) else none
    | _ => none)
  | .pop => (match st with
    | v :: s => if am_c1 v = true then some (.inl (r, lv, s, G)) else none
    | _ => none)
  | .getfield f => (match st with
    | .ref o :: s => am_opt (am_gf G o f) fun v => am_push r lv s G v
    | _ => none)
  | .putfield f => (match st with
    | .int x :: .ref o :: s => am_opt (am_pf G o f x) fun G' => some (.inl (r, lv, s, G'))
    | _ => none)
  | .getstatic j => am_push r lv st G (if j = 0 then .ref 300 else if j = 1 then .int (nI 1) else .ref 500)
  | .iaload => (match st with
    | .int i :: .ref o :: s => am_opt (am_ald X G o i) fun x => am_push r lv s G (.int x)
    | _ => none)
  | .baload => (match st with
    | .int i :: .ref o :: s => am_opt (am_bld o i) fun x => am_push r lv s G (.int x)
    | _ => none)
  | .aaload => (match st with
    | .int i :: .ref o :: s => am_opt (am_qld o i) fun x => am_push r lv s G (.ref x)
    | _ => none)
  | .iastore => (match st with
    | .int x :: .int i :: .ref o :: s => am_opt (am_ast G o i x) fun G' => some (.inl (r, lv, s, G'))
    | _ => none)
  | .arraylength => (match st with
    | .ref o :: s => am_opt (am_len X o) fun n => am_push r lv s G (.int (nI n))
    | _ => none)
  | .goto t => some (.inl (am_blk k t.toNat, lv, st, G))
  | .goto_w t => some (.inl (am_blk k t.toNat, lv, st, G))
  | .ifCond c t => (match st with
    | .int x :: s => some (.inl (if am_cmpB c x (nI 0) = true then am_blk k t.toNat else r, lv, s, G))
    | _ => none)
  | .if_icmp c t => (match st with
    | .int y :: .int x :: s => some (.inl (if am_cmpB c x y = true then am_blk k t.toNat else r, lv, s, G))
    | _ => none)
  | .tableswitch d lo hi offs => (match st with
    | .int x :: s => some (.inl (am_blk k (am_sw d lo hi offs x).toNat, lv, s, G))
    | _ => none)
  | .ret t => (match st with
    | [.int v] => if t = 0 ∨ (t = 1 ∧ (v = nI 0 ∨ v = nI 1)) ∨ (t = 2 ∧ v.toInt8.toInt32 = v) ∨ (t = 3 ∧ (v.toUInt32 % 65536).toInt32 = v) then some (.inr (.inl (some (.int v), G))) else none
    | [.long v] => if t = 4 then some (.inr (.inl (some (.long v), G))) else none
    | [.ref v] => if t = 5 ∧ v < 500 then some (.inr (.inl (some (.ref v), G))) else none
    | _ => none)
  | .return_ => (match st with
    | [] => some (.inr (.inl (none, G)))
    | _ => none)
  | .invokeinterface m c => if m = 999 then (match st with
      | .int n :: .int dp :: .ref o2 :: .int sp :: .ref o1 :: s => if s.length ≤ 4 then am_opt (am_cpy G o1 sp o2 dp n) fun G' => some (.inl (r, lv, s, G')) else none
      | _ => none)
    else if m = 996 then (match st with
      | .int y :: .int x :: s => if s.length ≤ 4 then am_push r lv s G (.int (if y < x then y else x)) else none
      | _ => none)
    else if m = 997 then (match st with
      | .int y :: .int x :: s => if s.length ≤ 4 then am_push r lv s G (.int (if x < y then y else x)) else none
      | _ => none)
    else if m = 998 then (match st with
      | .int x :: s => if s.length ≤ 4 then am_push r lv s G (.int (if nI 0 ≤ x then x else nI 0 - x)) else none
      | _ => none)
    else if c ≤ st.length ∧ (st.drop c).length ≤ 4 ∧ am_rcv m (st.take c).reverse = true then some (.inr (.inr (m, (st.take c).reverse, lv, st.drop c))) else none
  | _ => none
noncomputable def am_run (X : AmX) : Nat → Nat → List Instr → LV → List Value → GG → Option (Option Value × GG)
  | 0, _, _, _, _, _ => none
  | _ + 1, _, [], _, _, _ => none
  | n + 1, k, i :: r, lv, st, G => match am_st X k i r lv st G with
    | none => none
    | some (.inl (ops, lv', st', G')) => am_run X n k ops lv' st' G'
    | some (.inr (.inl z)) => some z
    | some (.inr (.inr (m, args, lv', st'))) => match am_run X n m (am_blk m 0) (am_ent m args) [] G with
      | none => none
      | some (v, G') => am_run X n k r lv' (v.toList ++ st') G'
theorem am_cmpB_iff (c : Jvm.ClassFile.Cond) (x y : Int32) : am_cmpB c x y = true ↔ am_cmp c x y := by
  cases c <;> simp [am_cmpB, am_cmp]
end
section
/-! ===== links, and the check that the blocks are the code: printed by program ===== -/
def am_frL : List Nat := [0, 0, 1, 0, 3, 0, 2, 1, 0, 2, 0, 0, 1, 2, 1, 0, 1, 0, 0, 3, 2, 1, 0, 0, 0, 7, 6, 5, 1, 0, 4, 3, 2, 0, 2, 2, 0, 2, 1, 0, 2, 1, 1, 3, 1, 0, 1, 0, 2, 7, 1, 
  1, 3, 2, 0, 3, 2, 3, 1, 0, 4, 3, 5, 4, 3, 0, 9, 8, 7, 2, 4, 3, 0, 0, 0, 8, 7, 7, 7, 2, 4, 1, 10, 1, 9, 0, 1, 4, 10, 4, 8, 1, 4, 0, 8, 1, 4, 8, 7, 4, 8, 5, 4, 11, 2, 10, 5, 11, 
  5, 11, 5, 11, 3, 8, 7, 4, 3, 9, 8, 0, 4, 9, 8, 5, 4, 10, 9, 6, 5, 1, 0, 4, 10, 2, 1, 9, 8, 6, 10, 4, 0, 8, 0, 3, 0, 8, 0, 1, 2, 0, 1, 0, 0, 9, 8, 2, 1, 0, 0, 7, 4, 2, 0, 5, 0, 
  6, 5, 0, 7, 1, 0, 6, 5, 4, 2, 5, 3, 0, 2, 2, 1, 2, 1, 3, 2, 2, 1, 0, 2, 1, 2, 2, 0, 0, 2, 0, 2, 2, 2, 3, 3, 7, 2, 1, 2, 1, 0, 0, 4, 0, 8, 2, 1, 14]
def am_loL : List Nat := [0, 0, 20, 0, 64, 0, 43, 22, 0, 44, 0, 0, 22, 42, 22, 0, 22, 0, 0, 109, 87, 60, 0, 0, 0, 157, 136, 112, 21, 0, 88, 66, 43, 0, 43, 60, 0, 44, 22, 0, 46, 
  22, 21, 109, 22, 0, 21, 0, 43, 157, 22, 23, 65, 42, 0, 66, 43, 109, 60, 0, 88, 109, 112, 132, 109, 0, 201, 179, 157, 43, 109, 66, 0, 0, 0, 179, 157, 157, 157, 43, 132, 60, 223, 
  22, 201, 0, 22, 132, 223, 132, 179, 21, 132, 0, 179, 21, 132, 179, 157, 132, 179, 158, 132, 253, 43, 223, 158, 253, 158, 253, 158, 253, 109, 178, 157, 132, 109, 201, 178, 0, 
  132, 200, 179, 155, 132, 225, 201, 183, 158, 22, 0, 132, 231, 42, 22, 204, 179, 183, 231, 132, 0, 179, 0, 109, 0, 179, 0, 23, 44, 0, 22, 0, 0, 194, 174, 41, 20, 0, 0, 152, 85, 
  41, 0, 107, 0, 131, 107, 0, 171, 60, 0, 148, 108, 85, 81, 125, 102, 0, 46, 44, 22, 43, 22, 65, 42, 43, 20, 0, 45, 23, 42, 44, 0, 0, 42, 0, 60, 42, 44, 63, 109, 157, 81, 22, 81, 
  22, 0, 0, 109, 0, 179, 44, 22, 552]
noncomputable def am_yL : List MethodName := [yJ7_fill_53178, yJ6_bitCount_0f7a4, yJ0_length_8abf5, yJ0_coder_7d493, yJ0_charAt_5068e, yJ0_isLatin1_aae02, yJ1_charAt_3b067, 
  yJ0_checkIndex_df160, yJ3_checkIndex_8e157, yX4_prize, yX4_isPlace, yX4_isWithin, yX4_found, yX5_prize, yX5_isPlace, yX5_within, yX5_isPrize, yX5_become, yX5_finding, yX4_place, 
  yX3_settle, yX3_bestPlaceFor, yX3_wishAt, yX3_plannersOf, yX3_choosersOf, yX5_place, yX5_looksAt, yX5_choiceOf, yX5_personIs, yX5_at, yX5_wishAt, yX5_seenAt, yX5_planners, 
  yX5_bits, yX5_loverWish, yX5_canSee, yX5_comers, yX4_person, yX4_isKind, yX3_addOne, yX5_person, yX5_isKind, yX5_comes, yX4_of, yX4_isThere, yX3_traitOf, yX3_getsNow, 
  yX4_shareOf, yX3_regretsNow, yX5_of, yX5_isPerson, yX5_doesRegret, yX4_change, yX3_mayBecome, yX3_setTrait, yX5_change, yX5_mayBe, yX4_seen, yX3_canSee, yX3_seenBy, yX5_seen, 
  yX4_wishes, yX5_wishes, yX4_go, yX3_passTuesdays, yX3_goodsOfAll, yX5_go, yX5_goesOn, yX5_goes, yX5_goodsAll, yX4_now, yX3_regretters, yX3_visitedPlaces, yX3_movers, 
  yX3_richest, yX5_now, yX5_whoRegrets, yX5_comePlaces, yX5_whoMoves, yX5_richest, yX4_ahead, yX3_become, yX5_ahead, yX5_isAhead, yX5_behind, yX5_copyRow, yX5_putBack, yX4_plan, 
  yX5_plan, yX4_rests, yX5_rests, yX5_orNone, yX4_round, yX3_hasPlansOf, yX5_round, yX5_arePlansAside, yX4_meet, yX5_meet, yX5_doMeet, yX4_crowd, yX5_crowd, yX4_planFor, 
  yX4_richestWith, yX5_planFor, yX5_isTried, yX5_bestFor, yX4_kindFor, yX5_kindFor, yX4_looksFor, yX5_looksFor, yX4_loveFor, yX5_loveFor, yX4_prizeFor, yX5_prizeFor, yX5_manyNow, 
  yX4_tell, yX4_comersIfTold, yX5_tell, yX5_manyIfTold, yX5_has, yX4_away, yX5_away, yX5_goodsWithout, yX4_swapFor, yX4_goodsIfSwapped, yX5_swapFor, yX5_goodsSwapped, yX4_fits, 
  yX4_fittingTraits, yX4_isSheet, yX0_isMissing, yX4_fitsWith, yX5_fits, yX5_lacks, yX5_isSheet, yX5_fitting, yX5_wentSo, yX4_kinds, yX5_kinds, yX4_weather, yX3_nextDraw, 
  yX5_weather, yX5_drawn, yX4_odds, yX4_powerOf, yX5_odds, yX4_seed, yX5_seed, yX4_feed, yX1_append, yX5_feed, yX4_wipe, yX5_wipe, yX4_text, yX2_readItems, yX1_rewind, yX1_step, 
  yX1_skipWord, yX1_skipNumber, yX2_readItem, yX1_isWord, yX2_readPrize, yX2_isNumberHere, yX2_kindHere, yX2_nameOf, yX2_readTraits, yX2_readTrait, yX2_failHere, yX5_text, 
  yX5_next, yX5_byteAt, yX5_readItem, yX5_kindTold, yX5_isWord, yX5_must, yX5_afterWord, yX5_number, yX5_addItem, yX5_isToldSo, yX4_hold, yX4_isSpot, yX5_hold, yX5_isSpot, yX4_as, 
  yX4_isUnder, yX5_as, yX5_isUnder, yX5_above, yX4_sheet, yX0_begin, yX5_sheet, yX4_write, yX0_hasNumbers, yX0_put, yX5_write, yX5_cutTo, yX4_copy, yX5_copy, yX4_load, yX5_load, 
  yX4_judge, yX5_judge, yX4_image, yX5_image, yX4_undo, yX5_undo, yX4_tear, yX5_tear, yX4_count, yX3_fullSpots, yX5_count, yX4_status, yX5_status, yL_law]
noncomputable def am_ccL : List ByteArray := [cJ7_fill_53178, cJ6_bitCount_0f7a4, cJ0_length_8abf5, cJ0_coder_7d493, cJ0_charAt_5068e, cJ0_isLatin1_aae02, cJ1_charAt_3b067, 
  cJ0_checkIndex_df160, cJ3_checkIndex_8e157, cX4_prize, cX4_isPlace, cX4_isWithin, cX4_found, cX5_prize, cX5_isPlace, cX5_within, cX5_isPrize, cX5_become, cX5_finding, cX4_place, 
  cX3_settle, cX3_bestPlaceFor, cX3_wishAt, cX3_plannersOf, cX3_choosersOf, cX5_place, cX5_looksAt, cX5_choiceOf, cX5_personIs, cX5_at, cX5_wishAt, cX5_seenAt, cX5_planners, 
  cX5_bits, cX5_loverWish, cX5_canSee, cX5_comers, cX4_person, cX4_isKind, cX3_addOne, cX5_person, cX5_isKind, cX5_comes, cX4_of, cX4_isThere, cX3_traitOf, cX3_getsNow, 
  cX4_shareOf, cX3_regretsNow, cX5_of, cX5_isPerson, cX5_doesRegret, cX4_change, cX3_mayBecome, cX3_setTrait, cX5_change, cX5_mayBe, cX4_seen, cX3_canSee, cX3_seenBy, cX5_seen, 
  cX4_wishes, cX5_wishes, cX4_go, cX3_passTuesdays, cX3_goodsOfAll, cX5_go, cX5_goesOn, cX5_goes, cX5_goodsAll, cX4_now, cX3_regretters, cX3_visitedPlaces, cX3_movers, 
  cX3_richest, cX5_now, cX5_whoRegrets, cX5_comePlaces, cX5_whoMoves, cX5_richest, cX4_ahead, cX3_become, cX5_ahead, cX5_isAhead, cX5_behind, cX5_copyRow, cX5_putBack, cX4_plan, 
  cX5_plan, cX4_rests, cX5_rests, cX5_orNone, cX4_round, cX3_hasPlansOf, cX5_round, cX5_arePlansAside, cX4_meet, cX5_meet, cX5_doMeet, cX4_crowd, cX5_crowd, cX4_planFor, 
  cX4_richestWith, cX5_planFor, cX5_isTried, cX5_bestFor, cX4_kindFor, cX5_kindFor, cX4_looksFor, cX5_looksFor, cX4_loveFor, cX5_loveFor, cX4_prizeFor, cX5_prizeFor, cX5_manyNow, 
  cX4_tell, cX4_comersIfTold, cX5_tell, cX5_manyIfTold, cX5_has, cX4_away, cX5_away, cX5_goodsWithout, cX4_swapFor, cX4_goodsIfSwapped, cX5_swapFor, cX5_goodsSwapped, cX4_fits, 
  cX4_fittingTraits, cX4_isSheet, cX0_isMissing, cX4_fitsWith, cX5_fits, cX5_lacks, cX5_isSheet, cX5_fitting, cX5_wentSo, cX4_kinds, cX5_kinds, cX4_weather, cX3_nextDraw, 
  cX5_weather, cX5_drawn, cX4_odds, cX4_powerOf, cX5_odds, cX4_seed, cX5_seed, cX4_feed, cX1_append, cX5_feed, cX4_wipe, cX5_wipe, cX4_text, cX2_readItems, cX1_rewind, cX1_step, 
  cX1_skipWord, cX1_skipNumber, cX2_readItem, cX1_isWord, cX2_readPrize, cX2_isNumberHere, cX2_kindHere, cX2_nameOf, cX2_readTraits, cX2_readTrait, cX2_failHere, cX5_text, 
  cX5_next, cX5_byteAt, cX5_readItem, cX5_kindTold, cX5_isWord, cX5_must, cX5_afterWord, cX5_number, cX5_addItem, cX5_isToldSo, cX4_hold, cX4_isSpot, cX5_hold, cX5_isSpot, cX4_as, 
  cX4_isUnder, cX5_as, cX5_isUnder, cX5_above, cX4_sheet, cX0_begin, cX5_sheet, cX4_write, cX0_hasNumbers, cX0_put, cX5_write, cX5_cutTo, cX4_copy, cX5_copy, cX4_load, cX5_load, 
  cX4_judge, cX5_judge, cX4_image, cX5_image, cX4_undo, cX5_undo, cX4_tear, cX5_tear, cX4_count, cX3_fullSpots, cX5_count, cX4_status, cX5_status, cL_law]
def am_rtL : List (Option FieldType) := [none, (some .int), (some .int), (some .byte), (some .char), (some .boolean), (some .char), none, (some .int), (some .int), 
  (some .boolean), (some .boolean), (some .int), (some .int), (some .boolean), (some .boolean), (some .boolean), (some .int), (some .int), (some .int), none, (some .int), 
  (some .int), (some .int), (some .int), (some .int), none, (some .int), (some .int), (some .int), (some .int), (some .int), (some .int), (some .int), (some .int), 
  (some .boolean), (some .int), (some .int), (some .boolean), (some .int), (some .int), (some .boolean), (some .int), (some .int), (some .boolean), (some .int), (some .int), 
  (some .int), (some .boolean), (some .int), (some .boolean), (some .boolean), (some .int), (some .boolean), none, (some .int), (some .boolean), (some .int), (some .boolean), 
  (some .int), (some .int), (some .int), (some .int), (some .int), none, (some .int), (some .int), none, none, (some .int), (some .int), (some .int), (some .int), (some .int), 
  (some .int), (some .int), (some .int), (some .int), (some .int), (some .int), (some .int), none, (some .int), (some .boolean), (some .int), none, (some .int), (some .int), 
  (some .int), (some .int), (some .int), (some .int), (some .int), (some .boolean), (some .int), (some .boolean), (some .int), (some .int), (some .boolean), (some .int), 
  (some .int), (some .int), (some .int), (some .int), (some .boolean), (some .int), (some .int), (some .int), (some .int), (some .int), (some .int), (some .int), (some .int), 
  (some .int), (some .int), (some .int), (some .int), (some .int), (some .int), (some .boolean), (some .int), (some .int), (some .int), (some .int), (some .int), (some .int), 
  (some .int), (some .int), (some .int), (some .boolean), (some .boolean), (some .boolean), (some .int), (some .int), (some .boolean), (some .int), (some .boolean), (some .int), 
  (some .int), (some .int), (some .int), (some .int), (some .int), (some .long), (some .long), (some .long), (some .int), (some .int), (some .int), none, (some .int), (some .int), 
  (some .int), (some .int), (some .boolean), none, none, none, none, (some .boolean), (some .boolean), (some .boolean), (some .boolean), (some .int), 
  (some (.object "java/lang/String")), (some .boolean), (some .boolean), (some .boolean), (some .int), none, (some .int), none, (some .int), (some .boolean), none, (some .int), 
  (some .int), none, (some .int), (some .int), (some .boolean), (some .int), (some .boolean), (some .int), (some .boolean), (some .int), (some .boolean), (some .int), (some .int), 
  none, (some .int), (some .int), (some .boolean), none, (some .int), (some .int), (some .int), (some .int), (some .int), (some .int), (some .int), (some .int), (some .int), 
  (some .int), (some .int), (some .int), (some .int), (some .int), (some .int), (some .int), (some .int), (some .int), (some .int), (some .boolean)]
def am_cnL : List String := [RX0, RX1, RX2, RX3, RX4, RX5, RJ0, RJ1, RJ2, RJ3, RJ6, RJ7, RJ9, RJ10, RL]
def am_fr (k : Nat) : Nat := am_frL.getD k 0
def am_lo (k : Nat) : Nat := am_loL.getD k 0
def am_na (k : Nat) : Nat := am_naL.getD k 99
noncomputable def am_y (k : Nat) : MethodName := am_yL.getD k yL_law
noncomputable def am_cc (k : Nat) : ByteArray := am_ccL.getD k cL_law
def am_rt (k : Nat) : Option FieldType := am_rtL.getD k none
def am_cn (c : Nat) : String := am_cnL.getD c RL
def am_fl : List ((Nat × Nat) × (Nat × Nat)) := [((6, 9), (1000, 752)), ((6, 15), (1001, 758)), ((0, 9), (0, 67)), ((0, 15), (1, 609)), ((0, 19), (2, 928)), ((1, 9), (32, 62)), 
  ((1, 15), (33, 692)), ((1, 19), (37, 723)), ((1, 25), (35, 728)), ((1, 28), (34, 729)), ((1, 37), (36, 738)), ((2, 12), (64, 56)), ((2, 21), (65, 58)), ((2, 25), (66, 717)), 
  ((2, 39), (34, 718)), ((2, 45), (35, 828)), ((2, 48), (67, 829)), ((2, 82), (36, 801)), ((2, 85), (96, 802)), ((3, 9), (96, 33)), ((3, 15), (97, 34)), ((3, 18), (98, 35)), 
  ((3, 21), (99, 36)), ((3, 24), (100, 37)), ((3, 27), (101, 38)), ((3, 30), (102, 39)), ((3, 33), (106, 40)), ((3, 36), (107, 41)), ((3, 39), (108, 42)), ((3, 48), (103, 43)), 
  ((3, 52), (104, 44)), ((3, 55), (105, 45)), ((4, 12), (128, 15)), ((4, 16), (129, 16)), ((4, 19), (130, 17)), ((4, 25), (131, 21)), ((4, 31), (132, 23)), ((4, 36), (133, 27)), 
  ((4, 40), (134, 28)), ((4, 57), (96, 92)), ((4, 83), (107, 233)), ((4, 110), (104, 320)), ((4, 140), (101, 395)), ((4, 143), (98, 426)), ((4, 150), (108, 475)), 
  ((4, 165), (103, 238)), ((4, 189), (105, 677)), ((4, 192), (64, 686)), ((4, 196), (33, 687)), ((4, 204), (65, 710)), ((4, 211), (67, 711)), ((4, 214), (66, 712)), 
  ((4, 220), (102, 887)), ((4, 224), (97, 902)), ((4, 239), (2, 614)), ((4, 251), (1, 958)), ((4, 254), (0, 615)), ((5, 9), (160, 72)), ((5, 13), (161, 73)), ((5, 16), (162, 74)), 
  ((5, 19), (164, 75)), ((5, 22), (165, 76)), ((5, 25), (166, 77)), ((5, 28), (167, 78)), ((5, 32), (168, 79)), ((5, 51), (175, 81)), ((5, 55), (176, 82)), ((5, 58), (179, 83)), 
  ((5, 61), (180, 84)), ((5, 64), (181, 85)), ((5, 67), (182, 86)), ((5, 241), (169, 697)), ((5, 244), (171, 834)), ((5, 247), (170, 839)), ((5, 253), (173, 844)), 
  ((5, 256), (172, 838)), ((5, 266), (174, 835)), ((5, 277), (177, 836)), ((5, 290), (178, 837)), ((5, 328), (163, 988))]
def am_mlk : List ((Nat × Nat) × (Nat × Nat)) := [((6, 335), (3, 753)), ((6, 492), (5, 763)), ((6, 495), (6, 767)), ((6, 1059), (8, 775)), ((7, 9), (7, 771)), ((14, 13), (9, 87)), 
  ((14, 17), (13, 103)), ((14, 18), (19, 125)), ((14, 21), (25, 156)), ((14, 22), (37, 205)), ((14, 25), (40, 217)), ((14, 26), (43, 229)), ((14, 29), (49, 254)), 
  ((14, 30), (52, 266)), ((14, 34), (55, 279)), ((14, 35), (57, 288)), ((14, 38), (60, 302)), ((14, 39), (61, 307)), ((14, 42), (62, 312)), ((14, 43), (63, 316)), 
  ((14, 47), (66, 332)), ((14, 48), (70, 350)), ((14, 51), (75, 371)), ((14, 52), (80, 391)), ((14, 55), (82, 404)), ((14, 56), (87, 422)), ((14, 59), (88, 427)), 
  ((14, 60), (89, 431)), ((14, 64), (90, 435)), ((14, 65), (92, 443)), ((14, 68), (94, 451)), ((14, 69), (96, 459)), ((14, 72), (97, 463)), ((14, 73), (99, 471)), 
  ((14, 76), (100, 478)), ((14, 77), (101, 483)), ((14, 80), (103, 491)), ((14, 81), (106, 503)), ((14, 84), (107, 507)), ((14, 85), (108, 511)), ((14, 88), (109, 515)), 
  ((14, 89), (110, 519)), ((14, 92), (111, 523)), ((14, 93), (112, 527)), ((14, 96), (113, 531)), ((14, 97), (115, 539)), ((14, 100), (117, 554)), ((14, 101), (120, 565)), 
  ((14, 104), (121, 569)), ((14, 105), (123, 577)), ((14, 108), (125, 585)), ((14, 109), (127, 593)), ((14, 112), (132, 616)), ((14, 113), (137, 636)), ((14, 116), (138, 640)), 
  ((14, 117), (139, 644)), ((14, 120), (141, 653)), ((14, 121), (143, 662)), ((14, 125), (145, 669)), ((14, 126), (146, 673)), ((14, 129), (147, 678)), ((14, 130), (148, 682)), 
  ((14, 133), (150, 693)), ((14, 134), (151, 698)), ((14, 137), (152, 702)), ((14, 138), (153, 706)), ((14, 141), (168, 830)), ((14, 142), (179, 883)), ((14, 145), (181, 891)), 
  ((14, 146), (183, 898)), ((14, 149), (185, 908)), ((14, 150), (188, 919)), ((14, 153), (190, 930)), ((14, 154), (191, 935)), ((14, 157), (194, 947)), ((14, 158), (196, 954)), 
  ((14, 162), (197, 960)), ((14, 163), (198, 964)), ((14, 166), (199, 968)), ((14, 167), (200, 972)), ((14, 170), (201, 976)), ((14, 171), (202, 980)), ((14, 174), (203, 984)), 
  ((14, 175), (204, 989)), ((14, 178), (205, 993)), ((14, 179), (206, 997)), ((14, 182), (207, 1001)), ((14, 183), (208, 1005)), ((14, 186), (210, 1013)), 
  ((14, 187), (211, 1017)), ((14, 190), (212, 1021)), ((0, 22), (0, 929)), ((1, 22), (156, 724)), ((1, 31), (157, 730)), ((1, 34), (158, 734)), ((1, 40), (2, 747)), 
  ((1, 45), (4, 759)), ((2, 29), (155, 719)), ((2, 32), (159, 739)), ((2, 36), (167, 824)), ((2, 42), (156, 796)), ((2, 53), (160, 743)), ((2, 57), (161, 797)), 
  ((2, 60), (163, 807)), ((2, 68), (39, 814)), ((2, 72), (165, 815)), ((2, 75), (164, 811)), ((2, 79), (162, 803)), ((2, 91), (166, 819)), ((2, 99), (54, 823)), 
  ((3, 42), (0, 46)), ((3, 76), (21, 133)), ((3, 80), (22, 144)), ((3, 95), (20, 327)), ((3, 98), (46, 253)), ((3, 104), (48, 358)), ((4, 44), (10, 93)), ((4, 48), (11, 96)), 
  ((4, 53), (12, 99)), ((4, 60), (20, 129)), ((4, 63), (23, 148)), ((4, 66), (24, 152)), ((4, 69), (38, 210)), ((4, 72), (39, 213)), ((4, 77), (44, 234)), ((4, 80), (45, 239)), 
  ((4, 86), (46, 243)), ((4, 89), (48, 249)), ((4, 92), (53, 270)), ((4, 95), (54, 275)), ((4, 99), (58, 293)), ((4, 104), (59, 298)), ((4, 107), (22, 311)), 
  ((4, 116), (64, 323)), ((4, 120), (65, 328)), ((4, 124), (71, 354)), ((4, 127), (72, 359)), ((4, 130), (73, 363)), ((4, 133), (74, 367)), ((4, 136), (81, 396)), 
  ((4, 146), (93, 447)), ((4, 161), (102, 487)), ((4, 168), (1, 543)), ((4, 173), (116, 550)), ((4, 176), (124, 581)), ((4, 179), (128, 597)), ((4, 182), (140, 648)), 
  ((4, 185), (144, 666)), ((4, 201), (149, 688)), ((4, 207), (154, 713)), ((4, 217), (180, 888)), ((4, 227), (184, 904)), ((4, 231), (129, 602)), ((4, 235), (189, 924)), 
  ((4, 242), (130, 605)), ((4, 245), (192, 939)), ((4, 248), (193, 943)), ((4, 263), (209, 1009)), ((4, 266), (131, 610)), ((5, 71), (85, 415)), ((5, 76), (18, 121)), 
  ((5, 80), (15, 111)), ((5, 84), (29, 172)), ((5, 88), (14, 108)), ((5, 92), (16, 114)), ((5, 95), (17, 117)), ((5, 98), (41, 222)), ((5, 102), (42, 225)), ((5, 106), (28, 168)), 
  ((5, 109), (32, 183)), ((5, 112), (33, 187)), ((5, 120), (31, 179)), ((5, 123), (34, 190)), ((5, 127), (30, 175)), ((5, 130), (35, 194)), ((5, 134), (27, 164)), 
  ((5, 137), (36, 201)), ((5, 140), (26, 160)), ((5, 143), (50, 258)), ((5, 146), (51, 262)), ((5, 150), (56, 283)), ((5, 156), (68, 341)), ((5, 160), (67, 337)), 
  ((5, 164), (69, 346)), ((5, 168), (76, 375)), ((5, 171), (77, 379)), ((5, 174), (78, 383)), ((5, 177), (79, 387)), ((5, 180), (86, 418)), ((5, 183), (83, 408)), 
  ((5, 186), (84, 411)), ((5, 189), (91, 439)), ((5, 192), (95, 455)), ((5, 196), (98, 467)), ((5, 202), (104, 495)), ((5, 205), (105, 499)), ((5, 209), (114, 535)), 
  ((5, 212), (119, 562)), ((5, 215), (118, 558)), ((5, 218), (122, 573)), ((5, 221), (126, 589)), ((5, 224), (134, 625)), ((5, 228), (136, 632)), ((5, 231), (133, 620)), 
  ((5, 234), (135, 628)), ((5, 238), (142, 657)), ((5, 250), (170, 845)), ((5, 259), (2, 861)), ((5, 262), (4, 862)), ((5, 270), (169, 840)), ((5, 273), (174, 863)), 
  ((5, 280), (173, 857)), ((5, 284), (176, 871)), ((5, 287), (172, 853)), ((5, 294), (175, 867)), ((5, 302), (177, 875)), ((5, 308), (171, 849)), ((5, 311), (178, 879)), 
  ((5, 314), (182, 895)), ((5, 317), (186, 913)), ((5, 322), (195, 951)), ((5, 325), (187, 916))]
def am_nlk : List ((Nat × Nat) × (Nat × Nat)) := [((2, 64), (38, 3)), ((3, 64), (38, 5)), ((3, 68), (10, 6)), ((3, 71), (11, 7)), ((3, 101), (47, 4))]
def am_alk : List ((Nat × Nat) × (Nat × Nat)) := [((3, 58), (400, 999)), ((4, 257), (959, 999)), ((3, 84), (137, 996)), ((3, 89), (141, 997)), ((3, 92), (297, 998)), 
  ((4, 153), (476, 996)), ((4, 158), (477, 997)), ((5, 115), (198, 998)), ((5, 153), (345, 996)), ((5, 199), (482, 997))]
def am_clk : List ((Nat × Nat) × (Int × Nat)) := [((10, 265), ((1431655765 : Int), 547)), ((10, 266), ((858993459 : Int), 548)), ((10, 267), ((252645135 : Int), 549)), 
  ((3, 75), ((99999 : Int), 274)), ((3, 107), ((1103515245 : Int), 652)), ((4, 52), ((-1000001 : Int), 91)), ((4, 76), ((-1000002 : Int), 209)), 
  ((4, 103), ((-1000004 : Int), 292)), ((4, 114), ((99999 : Int), 321)), ((4, 115), ((-1000005 : Int), 322)), ((4, 223), ((-1000006 : Int), 601)), 
  ((4, 230), ((-1000003 : Int), 903)), ((4, 234), ((-1000007 : Int), 923)), ((5, 70), ((-1000001 : Int), 107)), ((5, 75), ((-1000004 : Int), 306)), 
  ((5, 101), ((-1000002 : Int), 221)), ((5, 149), ((99999 : Int), 287)), ((5, 159), ((-1000005 : Int), 336)), ((5, 227), ((-1000006 : Int), 624)), 
  ((5, 237), ((1103515245 : Int), 661)), ((5, 320), ((-1000003 : Int), 912)), ((5, 321), ((-1000007 : Int), 934))]
def am_slk : List ((Nat × Nat) × (Nat × Nat)) := [((6, 38), (1, 757)), ((6, 1053), (2, 774)), ((4, 270), (0, 907))]
def am_rlk : List ((Nat × Nat) × (Nat × Nat)) := [((2, 103), (0, 0)), ((2, 105), (1, 1)), ((2, 107), (2, 2)), ((2, 109), (3, 3)), ((2, 111), (4, 4)), ((2, 113), (5, 5)), 
  ((2, 115), (6, 6)), ((2, 51), (7, 7)), ((2, 89), (8, 8)), ((2, 95), (9, 9)), ((2, 97), (10, 10)), ((5, 37), (0, 11)), ((5, 39), (1, 12)), ((5, 41), (2, 13)), ((5, 43), (3, 14)), 
  ((5, 45), (4, 15)), ((5, 47), (5, 16)), ((5, 49), (6, 17)), ((5, 306), (7, 18)), ((5, 293), (8, 19)), ((5, 298), (9, 20)), ((5, 300), (10, 21))]
def am_p1 : List Nat := [49, 546, 751, 756, 762, 766, 770, 773, 778, 90, 95, 98, 102, 106, 110, 113, 116, 120, 124, 128, 132, 136, 147, 151, 155, 159, 163, 167, 171, 174, 178, 
  182, 186, 189, 193, 197, 204, 208, 212, 216, 220, 224, 228, 232, 237, 242, 246, 248, 252, 257, 261, 265, 269, 273, 278, 282, 286, 291, 296, 301, 305, 310, 315, 319, 326, 331, 
  335, 340, 344, 349, 353, 357, 362, 366, 370, 374, 378, 382, 386, 390, 394, 399, 407, 410, 414, 417, 421, 425, 430, 434, 438, 442, 446, 450, 454, 458, 462, 466, 470, 474, 481, 
  486, 490, 494, 498, 502, 506, 510, 514, 518, 522, 526, 530, 534, 538, 542, 553, 557, 561, 564, 568, 572, 576, 580, 584, 588, 592, 596, 600, 604, 608, 613, 619, 623, 627, 631, 
  635, 639, 643, 647, 651, 656, 660, 665, 668, 672, 676, 681, 685, 691, 696, 701, 705, 709, 716, 722, 727, 733, 737, 742, 746, 800, 806, 810, 813, 818, 822, 827, 833, 843, 848, 
  852, 856, 860, 866, 870, 874, 878, 882, 886, 890, 894, 897, 901, 906, 911, 915, 918, 922, 927, 933, 938, 942, 946, 950, 953, 957, 963, 967, 971, 975, 979, 983, 987, 992, 996, 
  1000, 1004, 1008, 1012, 1016, 1020, 1024]
def am_p2 : List Nat := [47, 544, 748, 754, 760, 764, 768, 772, 776, 88, 94, 97, 100, 104, 109, 112, 115, 118, 122, 126, 130, 134, 145, 149, 153, 157, 161, 165, 169, 173, 176, 
  180, 184, 188, 191, 195, 202, 206, 211, 214, 218, 223, 226, 230, 235, 240, 244, 247, 250, 255, 259, 263, 267, 271, 276, 280, 284, 289, 294, 299, 303, 308, 313, 317, 324, 329, 
  333, 338, 342, 347, 351, 355, 360, 364, 368, 372, 376, 380, 384, 388, 392, 397, 405, 409, 412, 416, 419, 423, 428, 432, 436, 440, 444, 448, 452, 456, 460, 464, 468, 472, 479, 
  484, 488, 492, 496, 500, 504, 508, 512, 516, 520, 524, 528, 532, 536, 540, 551, 555, 559, 563, 566, 570, 574, 578, 582, 586, 590, 594, 598, 603, 606, 611, 617, 621, 626, 629, 
  633, 637, 641, 645, 649, 654, 658, 663, 667, 670, 674, 679, 683, 689, 694, 699, 703, 707, 714, 720, 725, 731, 735, 740, 744, 798, 804, 808, 812, 816, 820, 825, 831, 841, 846, 
  850, 854, 858, 864, 868, 872, 876, 880, 884, 889, 892, 896, 899, 905, 909, 914, 917, 920, 925, 931, 936, 940, 944, 948, 952, 955, 961, 965, 969, 973, 977, 981, 985, 990, 994, 
  998, 1002, 1006, 1010, 1014, 1018, 1022]
def am_p3 : List Nat := [0, 0, 749, 755, 761, 765, 0, 0, 0, 89, 0, 0, 101, 105, 0, 0, 0, 119, 123, 127, 131, 135, 146, 150, 154, 158, 162, 166, 170, 0, 177, 181, 185, 0, 192, 196, 
  203, 207, 0, 215, 219, 0, 227, 231, 236, 241, 245, 0, 251, 256, 260, 264, 268, 272, 277, 281, 285, 290, 295, 300, 304, 309, 314, 318, 325, 330, 334, 339, 343, 348, 352, 356, 
  361, 365, 369, 373, 377, 381, 385, 389, 393, 398, 406, 0, 413, 0, 420, 424, 429, 433, 437, 441, 445, 449, 453, 457, 461, 465, 469, 473, 480, 485, 489, 493, 497, 501, 505, 509, 
  513, 517, 521, 525, 529, 533, 537, 541, 552, 556, 560, 0, 567, 571, 575, 579, 583, 587, 591, 595, 599, 0, 607, 612, 618, 622, 0, 630, 634, 638, 642, 646, 650, 655, 659, 664, 0, 
  671, 675, 680, 684, 690, 695, 700, 704, 708, 715, 721, 726, 732, 736, 741, 745, 799, 805, 809, 0, 817, 821, 826, 832, 842, 847, 851, 855, 859, 865, 869, 873, 877, 881, 885, 0, 
  893, 0, 900, 0, 910, 0, 0, 921, 926, 932, 937, 941, 945, 949, 0, 956, 962, 966, 970, 974, 978, 982, 986, 991, 995, 999, 1003, 1007, 1011, 1015, 1019, 1023]
def am_p4 : List Nat := [48, 545, 750, 750, 750, 750, 769, 750, 777, 2, 2, 2, 2, 5, 5, 5, 5, 5, 5, 2, 14, 14, 14, 14, 14, 5, 5, 5, 5, 5, 5, 5, 5, 5, 5, 5, 5, 2, 2, 14, 5, 5, 5, 2, 
  2, 14, 14, 2, 14, 5, 5, 5, 2, 14, 14, 5, 5, 2, 14, 14, 5, 2, 5, 2, 14, 14, 5, 5, 5, 5, 2, 14, 14, 14, 14, 5, 5, 5, 5, 5, 2, 14, 5, 5, 5, 5, 5, 2, 5, 2, 5, 5, 2, 14, 5, 5, 2, 5, 
  5, 2, 5, 2, 2, 5, 5, 5, 2, 5, 2, 5, 2, 5, 2, 5, 5, 2, 2, 5, 5, 5, 2, 5, 5, 2, 2, 5, 5, 2, 2, 2, 25, 2, 5, 5, 5, 5, 5, 2, 5, 2, 14, 5, 5, 2, 2, 5, 2, 5, 2, 55, 5, 2, 5, 2, 20, 
  55, 55, 55, 55, 20, 55, 20, 20, 20, 20, 20, 20, 20, 5, 5, 5, 5, 5, 5, 5, 5, 5, 5, 5, 2, 2, 5, 5, 2, 2, 5, 5, 5, 2, 25, 5, 2, 25, 25, 5, 5, 2, 5, 2, 5, 2, 5, 2, 5, 2, 5, 2, 5, 2, 
  14, 5, 2, 5]
def am_pnat : Nat := 401
def am_pstat : Nat := 402
def am_pini : Nat := 403
def am_cst (n : Int) : Instr := match n with
  | .ofNat n => .ldc n
  | .negSucc n => .sipush (.negSucc n)
/-- a real instruction, resolved -/
def am_res (k pc : Nat) (i : Instr) : Option Instr := match i with
  | .iload_n j => some (.iload j.val)
  | .aload_n j => some (.aload j.val)
  | .lload_n j => some (.lload j.val)
  | .istore_n j => some (.istore j.val)
  | .astore_n j => some (.astore j.val)
  | .lstore_n j => some (.lstore j.val)
  | .iload j => some (.iload j)
  | .aload j => some (.aload j)
  | .lload j => some (.lload j)
  | .istore j => some (.istore j)
  | .astore j => some (.astore j)
  | .lstore j => some (.lstore j)
  | .iconst n => some (am_cst n)
  | .bipush n => if -128 ≤ n ∧ n < 128 then some (am_cst n) else none
  | .sipush n => if -32768 ≤ n ∧ n < 32768 then some (am_cst n) else none
  | .lconst n => some (.lconst n)
  | .ldc j => (match am_clk.lookup (am_own k, j) with
    | some q => some (am_cst q.1)
    | none => (match am_rlk.lookup (am_own k, j) with
      | some q => some (.ldc_w q.1)
      | none => none))
  | .ldc_w j => (match am_clk.lookup (am_own k, j) with
    | some q => some (am_cst q.1)
    | none => (match am_rlk.lookup (am_own k, j) with
      | some q => some (.ldc_w q.1)
      | none => none))
  | .iinc j n => some (.iinc j n)
  | .iadd => some .iadd
  | .isub => some .isub
  | .imul => some .imul
  | .iand => some .iand
  | .ior => some .ior
  | .ixor => some .ixor
  | .ishl => some .ishl
  | .ishr => some .ishr
  | .iushr => some .iushr
  | .idiv => some .idiv
  | .irem => some .irem
  | .ineg => some .ineg
  | .i2b => some .i2b
  | .i2s => some .i2s
  | .i2c => some .i2c
  | .i2l => some .i2l
  | .ladd => some .ladd
  | .lmul => some .lmul
  | .lcmp => some .lcmp
  | .dup => some .dup
  | .dup2 => some .dup2
  | .pop => some .pop
  | .iaload => some .iaload
  | .baload => some .baload
  | .aaload => some .aaload
  | .iastore => some .iastore
  | .arraylength => some .arraylength
  | .getfield j => (match am_fl.lookup (am_own k, j) with
    | some q => some (.getfield q.1)
    | none => none)
  | .putfield j => (match am_fl.lookup (am_own k, j) with
    | some q => some (.putfield q.1)
    | none => none)
  | .getstatic j => (match am_slk.lookup (am_own k, j) with
    | some q => some (.getstatic q.1)
    | none => none)
  | .invokevirtual j => (match am_mlk.lookup (am_own k, j) with
    | some q => if am_stat q.1 = true then none else some (.invokeinterface q.1 (am_na q.1))
    | none => none)
  | .invokestatic j => (match am_mlk.lookup (am_own k, j) with
    | some q => if am_stat q.1 = true then some (.invokeinterface q.1 (am_na q.1)) else none
    | none => (match am_nlk.lookup (am_own k, j) with
      | some q => if am_stat q.1 = true then some (.invokeinterface q.1 (am_na q.1)) else none
      | none => (match am_alk.lookup (am_own k, j) with
        | some q => (if q.2 = 999 then some (.invokeinterface 999 5) else if q.2 = 996 then some (.invokeinterface 996 2) else if q.2 = 997 then some (.invokeinterface 997 2) else if q.2 = 998 then some (.invokeinterface 998 1) else none)
        | none => none)))
  | .ifCond c t => some (.ifCond c (pc + t))
  | .if_icmp c t => some (.if_icmp c (pc + t))
  | .goto t => some (.goto (pc + t))
  | .tableswitch d lo hi offs => some (.tableswitch (pc + d) lo hi (offs.map fun t => pc + t))
  | .ireturn => (match am_rt k with
    | some .int => some (.ret 0)
    | some .boolean => some (.ret 1)
    | some .byte => some (.ret 2)
    | some .char => some (.ret 3)
    | _ => none)
  | .lreturn => (match am_rt k with
    | some .long => some (.ret 4)
    | _ => none)
  | .areturn => (match am_rt k with
    | some (.object _) => some (.ret 5)
    | _ => none)
  | .return_ => (match am_rt k with
    | none => some .return_
    | _ => none)
  | _ => none
def am_ln (i : Instr) (n : Nat) : Bool := match i with
  | .iload _ => n == 2
  | .aload _ => n == 2
  | .lload _ => n == 2
  | .istore _ => n == 2
  | .astore _ => n == 2
  | .lstore _ => n == 2
  | .bipush _ => n == 2
  | .ldc _ => n == 2
  | .sipush _ => n == 3
  | .ldc_w _ => n == 3
  | .iinc _ _ => n == 3
  | .getfield _ => n == 3
  | .putfield _ => n == 3
  | .getstatic _ => n == 3
  | .invokevirtual _ => n == 3
  | .invokestatic _ => n == 3
  | .ifCond _ _ => n == 3
  | .if_icmp _ _ => n == 3
  | .goto _ => n == 3
  | .tableswitch _ _ _ _ => true
  | _ => n == 1
def am_nM : Nat := 213
def am_ctl (k : Nat) (i : Instr) : Bool := match i with
  | .goto t => decide (0 ≤ t)
  | .ifCond _ t => decide (0 ≤ t)
  | .if_icmp _ t => decide (0 ≤ t)
  | .tableswitch d lo hi offs => decide (0 ≤ d) && (offs.toList.all fun t => decide (0 ≤ t)) && decide (hi - lo < (offs.size : Int))
  | .invokeinterface m _ => if 996 ≤ m then decide (1 ≤ am_fr k ∧ 60 ≤ am_lo k) else decide (m < am_nM ∧ am_fr m + 1 ≤ am_fr k ∧ 8 + (am_mx m + 11) + am_lo m ≤ am_lo k)
  | _ => true
def am_term (i : Instr) : Bool := match i with
  | .goto _ => true
  | .tableswitch _ _ _ _ => true
  | .ret _ => true
  | .return_ => true
  | _ => false
noncomputable def am_at (k : Nat) : Nat → List Instr → Bool
  | _, [] => false
  | pc, i :: r => match i with
    | .goto_w t => decide (t = (pc : Int))
    | _ => match decode (am_cc k) pc with
      | .ok (real, len) => decide (am_res k pc real = some i) && am_ln real len && am_ctl k i && (am_term i || am_at k (pc + len) r)
      | .error _ => false
noncomputable def am_okm (k : Nat) : Bool := (am_tL.getD k []).all fun q => am_at k q.1 q.2
end
section
def am_T (ci : Nat) : u_T := match ci with
  | 0 => TX0
  | 1 => TX1
  | 2 => TX2
  | 3 => TX3
  | 4 => TX4
  | _ => TX5
/-! ===== the links are among the words ===== -/
def am_wL : List Cond := wsL_law
set_option maxRecDepth 100000 in
theorem am_fl_ok : ∀ q ∈ am_fl, q.2.1 < 1000 → wsL_law[q.2.2]? = some (.fieldLink (am_cn q.1.1) q.1.2 (am_cn (q.2.1 / 32)) ((am_T (q.2.1 / 32)) (q.2.1 % 32)).2.1 ((am_T (q.2.1 / 32)) (q.2.1 % 32)).2.2.1) := by decide +kernel
set_option maxRecDepth 100000 in
theorem am_fl_ok2 : ∀ q ∈ am_fl, (q.2.1 = 1000 → wsL_law[q.2.2]? = some (.fieldLink (am_cn q.1.1) q.1.2 "java/lang/String" "value" "[B")) ∧ (q.2.1 = 1001 → wsL_law[q.2.2]? = some (.fieldLink (am_cn q.1.1) q.1.2 "java/lang/String" "coder" "B")) := by decide +kernel
set_option maxRecDepth 100000 in
theorem am_mlk_ok : ∀ q ∈ am_mlk, wsL_law[q.2.2]? = some (.methodLink (am_cn q.1.1) q.1.2 (am_y q.2.1)) := by decide +kernel
theorem am_nlk_ok : ∀ q ∈ am_nlk, tt_nests[q.2.2]? = some (am_cn q.1.1, q.1.2, am_y q.2.1) := by decide +kernel
def am_pn (n : Nat) : MethodName := if n = 999 then arraycopyName else if n = 996 then Lib.Math.min.name else if n = 997 then Lib.Math.max.name else Lib.Math.abs.name
theorem am_alk_ok : ∀ q ∈ am_alk, wsL_law[q.2.1]? = some (.methodLink (am_cn q.1.1) q.1.2 (am_pn q.2.2)) := by decide +kernel
set_option maxRecDepth 100000 in
theorem am_clk_ok : ∀ q ∈ am_clk, wsL_law[q.2.2]? = some (.constant (am_cn q.1.1) q.1.2 (Int32.ofInt q.2.1)) := by decide +kernel
set_option maxRecDepth 100000 in
theorem am_slk_ok : ∀ q ∈ am_slk, (q.2.1 = 0 → wsL_law[q.2.2]? = some (.fieldLink (am_cn q.1.1) q.1.2 RX4 "KIND_ABOVE" "[I")) ∧ (q.2.1 = 1 → wsL_law[q.2.2]? = some (.fieldLink (am_cn q.1.1) q.1.2 "java/lang/String" "COMPACT_STRINGS" "Z")) ∧ (q.2.1 = 2 → wsL_law[q.2.2]? = some (.fieldLink (am_cn q.1.1) q.1.2 "jdk/internal/util/Preconditions" "SIOOBE_FORMATTER" "Ljava/util/function/BiFunction;")) ∧ q.2.1 < 3 := by decide +kernel
theorem am_rlk_ok : ∀ q ∈ am_rlk, (tt_refs[q.2.2]?).map (fun z => (z.1, z.2.1, z.2.2.2)) = some (am_cn q.1.1, q.1.2, q.2.1) ∧ q.2.1 < 11 := by decide +kernel
set_option maxRecDepth 100000 in
theorem am_good : wsL_law.all goodWord = true := by decide +kernel
theorem am_rin1 : ∀ w ∈ wsL_law_r1, w ∈ wsL_law := fun _ h => List.mem_append_left _ (List.mem_append_left _ (List.mem_append_left _ (List.mem_append_left _ (List.mem_append_left _ (List.mem_append_left _ (List.mem_append_left _ (List.mem_append_left _ (h))))))))
theorem am_rin2 : ∀ w ∈ wsL_law_r2, w ∈ wsL_law := fun _ h => List.mem_append_left _ (List.mem_append_left _ (List.mem_append_left _ (List.mem_append_left _ (List.mem_append_left _ (List.mem_append_left _ (List.mem_append_left _ (List.mem_append_right _ (List.mem_append_left _ (h)))))))))
theorem am_rin3 : ∀ w ∈ wsL_law_r3, w ∈ wsL_law := fun _ h => List.mem_append_left _ (List.mem_append_left _ (List.mem_append_left _ (List.mem_append_left _ (List.mem_append_left _ (List.mem_append_left _ (List.mem_append_left _ (List.mem_append_right _ (List.mem_append_right _ (List.mem_append_left _ (h))))))))))
theorem am_rin4 : ∀ w ∈ wsL_law_r4, w ∈ wsL_law := fun _ h => List.mem_append_left _ (List.mem_append_left _ (List.mem_append_left _ (List.mem_append_left _ (List.mem_append_left _ (List.mem_append_left _ (List.mem_append_left _ (List.mem_append_right _ (List.mem_append_right _ (List.mem_append_right _ (List.mem_append_left _ (h)))))))))))
theorem am_rin5 : ∀ w ∈ wsL_law_r5, w ∈ wsL_law := fun _ h => List.mem_append_left _ (List.mem_append_left _ (List.mem_append_left _ (List.mem_append_left _ (List.mem_append_left _ (List.mem_append_left _ (List.mem_append_left _ (List.mem_append_right _ (List.mem_append_right _ (List.mem_append_right _ (List.mem_append_right _ (List.mem_append_left _ (h))))))))))))
theorem am_rin6 : ∀ w ∈ wsL_law_r6, w ∈ wsL_law := fun _ h => List.mem_append_left _ (List.mem_append_left _ (List.mem_append_left _ (List.mem_append_left _ (List.mem_append_left _ (List.mem_append_left _ (List.mem_append_left _ (List.mem_append_right _ (List.mem_append_right _ (List.mem_append_right _ (List.mem_append_right _ (List.mem_append_right _ (List.mem_append_left _ (h)))))))))))))
theorem am_rin7 : ∀ w ∈ wsL_law_r7, w ∈ wsL_law := fun _ h => List.mem_append_left _ (List.mem_append_left _ (List.mem_append_left _ (List.mem_append_left _ (List.mem_append_left _ (List.mem_append_left _ (List.mem_append_left _ (List.mem_append_right _ (List.mem_append_right _ (List.mem_append_right _ (List.mem_append_right _ (List.mem_append_right _ (List.mem_append_right _ (List.mem_append_left _ (h))))))))))))))
theorem am_rin8 : ∀ w ∈ wsL_law_r8, w ∈ wsL_law := fun _ h => List.mem_append_left _ (List.mem_append_left _ (List.mem_append_left _ (List.mem_append_left _ (List.mem_append_left _ (List.mem_append_left _ (List.mem_append_left _ (List.mem_append_right _ (List.mem_append_right _ (List.mem_append_right _ (List.mem_append_right _ (List.mem_append_right _ (List.mem_append_right _ (List.mem_append_right _ (List.mem_append_left _ (h)))))))))))))))
theorem am_rin9 : ∀ w ∈ wsL_law_r9, w ∈ wsL_law := fun _ h => List.mem_append_left _ (List.mem_append_left _ (List.mem_append_left _ (List.mem_append_left _ (List.mem_append_left _ (List.mem_append_left _ (List.mem_append_left _ (List.mem_append_right _ (List.mem_append_right _ (List.mem_append_right _ (List.mem_append_right _ (List.mem_append_right _ (List.mem_append_right _ (List.mem_append_right _ (List.mem_append_right _ (List.mem_append_left _ (h))))))))))))))))
theorem am_rin10 : ∀ w ∈ wsL_law_r10, w ∈ wsL_law := fun _ h => List.mem_append_left _ (List.mem_append_left _ (List.mem_append_left _ (List.mem_append_left _ (List.mem_append_left _ (List.mem_append_left _ (List.mem_append_left _ (List.mem_append_right _ (List.mem_append_right _ (List.mem_append_right _ (List.mem_append_right _ (List.mem_append_right _ (List.mem_append_right _ (List.mem_append_right _ (List.mem_append_right _ (List.mem_append_right _ (List.mem_append_left _ (h)))))))))))))))))
theorem am_rin11 : ∀ w ∈ wsL_law_r11, w ∈ wsL_law := fun _ h => List.mem_append_left _ (List.mem_append_left _ (List.mem_append_left _ (List.mem_append_left _ (List.mem_append_left _ (List.mem_append_left _ (List.mem_append_left _ (List.mem_append_right _ (List.mem_append_right _ (List.mem_append_right _ (List.mem_append_right _ (List.mem_append_right _ (List.mem_append_right _ (List.mem_append_right _ (List.mem_append_right _ (List.mem_append_right _ (List.mem_append_right _ (List.mem_append_left _ (h))))))))))))))))))
theorem am_rin12 : ∀ w ∈ wsL_law_r12, w ∈ wsL_law := fun _ h => List.mem_append_left _ (List.mem_append_left _ (List.mem_append_left _ (List.mem_append_left _ (List.mem_append_left _ (List.mem_append_left _ (List.mem_append_left _ (List.mem_append_right _ (List.mem_append_right _ (List.mem_append_right _ (List.mem_append_right _ (List.mem_append_right _ (List.mem_append_right _ (List.mem_append_right _ (List.mem_append_right _ (List.mem_append_right _ (List.mem_append_right _ (List.mem_append_right _ (List.mem_append_left _ (h)))))))))))))))))))
theorem am_rin13 : ∀ w ∈ wsL_law_r13, w ∈ wsL_law := fun _ h => List.mem_append_left _ (List.mem_append_left _ (List.mem_append_left _ (List.mem_append_left _ (List.mem_append_left _ (List.mem_append_left _ (List.mem_append_left _ (List.mem_append_right _ (List.mem_append_right _ (List.mem_append_right _ (List.mem_append_right _ (List.mem_append_right _ (List.mem_append_right _ (List.mem_append_right _ (List.mem_append_right _ (List.mem_append_right _ (List.mem_append_right _ (List.mem_append_right _ (List.mem_append_right _ (List.mem_append_left _ (h))))))))))))))))))))
theorem am_rin14 : ∀ w ∈ wsL_law_r14, w ∈ wsL_law := fun _ h => List.mem_append_left _ (List.mem_append_left _ (List.mem_append_left _ (List.mem_append_left _ (List.mem_append_left _ (List.mem_append_left _ (List.mem_append_left _ (List.mem_append_right _ (List.mem_append_right _ (List.mem_append_right _ (List.mem_append_right _ (List.mem_append_right _ (List.mem_append_right _ (List.mem_append_right _ (List.mem_append_right _ (List.mem_append_right _ (List.mem_append_right _ (List.mem_append_right _ (List.mem_append_right _ (List.mem_append_right _ (List.mem_append_left _ (h)))))))))))))))))))))
theorem am_rin15 : ∀ w ∈ wsL_law_r15, w ∈ wsL_law := fun _ h => List.mem_append_left _ (List.mem_append_left _ (List.mem_append_left _ (List.mem_append_left _ (List.mem_append_left _ (List.mem_append_left _ (List.mem_append_left _ (List.mem_append_right _ (List.mem_append_right _ (List.mem_append_right _ (List.mem_append_right _ (List.mem_append_right _ (List.mem_append_right _ (List.mem_append_right _ (List.mem_append_right _ (List.mem_append_right _ (List.mem_append_right _ (List.mem_append_right _ (List.mem_append_right _ (List.mem_append_right _ (List.mem_append_right _ (List.mem_append_left _ (h))))))))))))))))))))))
theorem am_rin16 : ∀ w ∈ wsL_law_r16, w ∈ wsL_law := fun _ h => List.mem_append_left _ (List.mem_append_left _ (List.mem_append_left _ (List.mem_append_left _ (List.mem_append_left _ (List.mem_append_left _ (List.mem_append_left _ (List.mem_append_right _ (List.mem_append_right _ (List.mem_append_right _ (List.mem_append_right _ (List.mem_append_right _ (List.mem_append_right _ (List.mem_append_right _ (List.mem_append_right _ (List.mem_append_right _ (List.mem_append_right _ (List.mem_append_right _ (List.mem_append_right _ (List.mem_append_right _ (List.mem_append_right _ (List.mem_append_right _ (List.mem_append_left _ (h)))))))))))))))))))))))
theorem am_rin17 : ∀ w ∈ wsL_law_r17, w ∈ wsL_law := fun _ h => List.mem_append_left _ (List.mem_append_left _ (List.mem_append_left _ (List.mem_append_left _ (List.mem_append_left _ (List.mem_append_left _ (List.mem_append_left _ (List.mem_append_right _ (List.mem_append_right _ (List.mem_append_right _ (List.mem_append_right _ (List.mem_append_right _ (List.mem_append_right _ (List.mem_append_right _ (List.mem_append_right _ (List.mem_append_right _ (List.mem_append_right _ (List.mem_append_right _ (List.mem_append_right _ (List.mem_append_right _ (List.mem_append_right _ (List.mem_append_right _ (List.mem_append_right _ (List.mem_append_left _ (h))))))))))))))))))))))))
theorem am_rin18 : ∀ w ∈ wsL_law_r18, w ∈ wsL_law := fun _ h => List.mem_append_left _ (List.mem_append_left _ (List.mem_append_left _ (List.mem_append_left _ (List.mem_append_left _ (List.mem_append_left _ (List.mem_append_left _ (List.mem_append_right _ (List.mem_append_right _ (List.mem_append_right _ (List.mem_append_right _ (List.mem_append_right _ (List.mem_append_right _ (List.mem_append_right _ (List.mem_append_right _ (List.mem_append_right _ (List.mem_append_right _ (List.mem_append_right _ (List.mem_append_right _ (List.mem_append_right _ (List.mem_append_right _ (List.mem_append_right _ (List.mem_append_right _ (List.mem_append_right _ (List.mem_append_left _ (h)))))))))))))))))))))))))
theorem am_rin19 : ∀ w ∈ wsL_law_r19, w ∈ wsL_law := fun _ h => List.mem_append_left _ (List.mem_append_left _ (List.mem_append_left _ (List.mem_append_left _ (List.mem_append_left _ (List.mem_append_left _ (List.mem_append_left _ (List.mem_append_right _ (List.mem_append_right _ (List.mem_append_right _ (List.mem_append_right _ (List.mem_append_right _ (List.mem_append_right _ (List.mem_append_right _ (List.mem_append_right _ (List.mem_append_right _ (List.mem_append_right _ (List.mem_append_right _ (List.mem_append_right _ (List.mem_append_right _ (List.mem_append_right _ (List.mem_append_right _ (List.mem_append_right _ (List.mem_append_right _ (List.mem_append_right _ (List.mem_append_left _ (h))))))))))))))))))))))))))
theorem am_rin20 : ∀ w ∈ wsL_law_r20, w ∈ wsL_law := fun _ h => List.mem_append_left _ (List.mem_append_left _ (List.mem_append_left _ (List.mem_append_left _ (List.mem_append_left _ (List.mem_append_left _ (List.mem_append_left _ (List.mem_append_right _ (List.mem_append_right _ (List.mem_append_right _ (List.mem_append_right _ (List.mem_append_right _ (List.mem_append_right _ (List.mem_append_right _ (List.mem_append_right _ (List.mem_append_right _ (List.mem_append_right _ (List.mem_append_right _ (List.mem_append_right _ (List.mem_append_right _ (List.mem_append_right _ (List.mem_append_right _ (List.mem_append_right _ (List.mem_append_right _ (List.mem_append_right _ (List.mem_append_right _ (List.mem_append_left _ (h)))))))))))))))))))))))))))
theorem am_rin21 : ∀ w ∈ wsL_law_r21, w ∈ wsL_law := fun _ h => List.mem_append_left _ (List.mem_append_left _ (List.mem_append_left _ (List.mem_append_left _ (List.mem_append_left _ (List.mem_append_left _ (List.mem_append_left _ (List.mem_append_right _ (List.mem_append_right _ (List.mem_append_right _ (List.mem_append_right _ (List.mem_append_right _ (List.mem_append_right _ (List.mem_append_right _ (List.mem_append_right _ (List.mem_append_right _ (List.mem_append_right _ (List.mem_append_right _ (List.mem_append_right _ (List.mem_append_right _ (List.mem_append_right _ (List.mem_append_right _ (List.mem_append_right _ (List.mem_append_right _ (List.mem_append_right _ (List.mem_append_right _ (List.mem_append_right _ (List.mem_append_left _ (h))))))))))))))))))))))))))))
theorem am_rin22 : ∀ w ∈ wsL_law_r22, w ∈ wsL_law := fun _ h => List.mem_append_left _ (List.mem_append_left _ (List.mem_append_left _ (List.mem_append_left _ (List.mem_append_left _ (List.mem_append_left _ (List.mem_append_left _ (List.mem_append_right _ (List.mem_append_right _ (List.mem_append_right _ (List.mem_append_right _ (List.mem_append_right _ (List.mem_append_right _ (List.mem_append_right _ (List.mem_append_right _ (List.mem_append_right _ (List.mem_append_right _ (List.mem_append_right _ (List.mem_append_right _ (List.mem_append_right _ (List.mem_append_right _ (List.mem_append_right _ (List.mem_append_right _ (List.mem_append_right _ (List.mem_append_right _ (List.mem_append_right _ (List.mem_append_right _ (List.mem_append_right _ (List.mem_append_left _ (h)))))))))))))))))))))))))))))
theorem am_rin23 : ∀ w ∈ wsL_law_r23, w ∈ wsL_law := fun _ h => List.mem_append_left _ (List.mem_append_left _ (List.mem_append_left _ (List.mem_append_left _ (List.mem_append_left _ (List.mem_append_left _ (List.mem_append_left _ (List.mem_append_right _ (List.mem_append_right _ (List.mem_append_right _ (List.mem_append_right _ (List.mem_append_right _ (List.mem_append_right _ (List.mem_append_right _ (List.mem_append_right _ (List.mem_append_right _ (List.mem_append_right _ (List.mem_append_right _ (List.mem_append_right _ (List.mem_append_right _ (List.mem_append_right _ (List.mem_append_right _ (List.mem_append_right _ (List.mem_append_right _ (List.mem_append_right _ (List.mem_append_right _ (List.mem_append_right _ (List.mem_append_right _ (List.mem_append_right _ (List.mem_append_left _ (h))))))))))))))))))))))))))))))
theorem am_rin24 : ∀ w ∈ wsL_law_r24, w ∈ wsL_law := fun _ h => List.mem_append_left _ (List.mem_append_left _ (List.mem_append_left _ (List.mem_append_left _ (List.mem_append_left _ (List.mem_append_left _ (List.mem_append_left _ (List.mem_append_right _ (List.mem_append_right _ (List.mem_append_right _ (List.mem_append_right _ (List.mem_append_right _ (List.mem_append_right _ (List.mem_append_right _ (List.mem_append_right _ (List.mem_append_right _ (List.mem_append_right _ (List.mem_append_right _ (List.mem_append_right _ (List.mem_append_right _ (List.mem_append_right _ (List.mem_append_right _ (List.mem_append_right _ (List.mem_append_right _ (List.mem_append_right _ (List.mem_append_right _ (List.mem_append_right _ (List.mem_append_right _ (List.mem_append_right _ (List.mem_append_right _ (List.mem_append_left _ (h)))))))))))))))))))))))))))))))
theorem am_rin25 : ∀ w ∈ wsL_law_r25, w ∈ wsL_law := fun _ h => List.mem_append_left _ (List.mem_append_left _ (List.mem_append_left _ (List.mem_append_left _ (List.mem_append_left _ (List.mem_append_left _ (List.mem_append_left _ (List.mem_append_right _ (List.mem_append_right _ (List.mem_append_right _ (List.mem_append_right _ (List.mem_append_right _ (List.mem_append_right _ (List.mem_append_right _ (List.mem_append_right _ (List.mem_append_right _ (List.mem_append_right _ (List.mem_append_right _ (List.mem_append_right _ (List.mem_append_right _ (List.mem_append_right _ (List.mem_append_right _ (List.mem_append_right _ (List.mem_append_right _ (List.mem_append_right _ (List.mem_append_right _ (List.mem_append_right _ (List.mem_append_right _ (List.mem_append_right _ (List.mem_append_right _ (List.mem_append_right _ (List.mem_append_left _ (h))))))))))))))))))))))))))))))))
theorem am_rin26 : ∀ w ∈ wsL_law_r26, w ∈ wsL_law := fun _ h => List.mem_append_left _ (List.mem_append_left _ (List.mem_append_left _ (List.mem_append_left _ (List.mem_append_left _ (List.mem_append_left _ (List.mem_append_left _ (List.mem_append_right _ (List.mem_append_right _ (List.mem_append_right _ (List.mem_append_right _ (List.mem_append_right _ (List.mem_append_right _ (List.mem_append_right _ (List.mem_append_right _ (List.mem_append_right _ (List.mem_append_right _ (List.mem_append_right _ (List.mem_append_right _ (List.mem_append_right _ (List.mem_append_right _ (List.mem_append_right _ (List.mem_append_right _ (List.mem_append_right _ (List.mem_append_right _ (List.mem_append_right _ (List.mem_append_right _ (List.mem_append_right _ (List.mem_append_right _ (List.mem_append_right _ (List.mem_append_right _ (List.mem_append_right _ (List.mem_append_left _ (h)))))))))))))))))))))))))))))))))
theorem am_rin27 : ∀ w ∈ wsL_law_r27, w ∈ wsL_law := fun _ h => List.mem_append_left _ (List.mem_append_left _ (List.mem_append_left _ (List.mem_append_left _ (List.mem_append_left _ (List.mem_append_left _ (List.mem_append_left _ (List.mem_append_right _ (List.mem_append_right _ (List.mem_append_right _ (List.mem_append_right _ (List.mem_append_right _ (List.mem_append_right _ (List.mem_append_right _ (List.mem_append_right _ (List.mem_append_right _ (List.mem_append_right _ (List.mem_append_right _ (List.mem_append_right _ (List.mem_append_right _ (List.mem_append_right _ (List.mem_append_right _ (List.mem_append_right _ (List.mem_append_right _ (List.mem_append_right _ (List.mem_append_right _ (List.mem_append_right _ (List.mem_append_right _ (List.mem_append_right _ (List.mem_append_right _ (List.mem_append_right _ (List.mem_append_right _ (List.mem_append_right _ (List.mem_append_left _ (h))))))))))))))))))))))))))))))))))
theorem am_rin28 : ∀ w ∈ wsL_law_r28, w ∈ wsL_law := fun _ h => List.mem_append_left _ (List.mem_append_left _ (List.mem_append_left _ (List.mem_append_left _ (List.mem_append_left _ (List.mem_append_left _ (List.mem_append_left _ (List.mem_append_right _ (List.mem_append_right _ (List.mem_append_right _ (List.mem_append_right _ (List.mem_append_right _ (List.mem_append_right _ (List.mem_append_right _ (List.mem_append_right _ (List.mem_append_right _ (List.mem_append_right _ (List.mem_append_right _ (List.mem_append_right _ (List.mem_append_right _ (List.mem_append_right _ (List.mem_append_right _ (List.mem_append_right _ (List.mem_append_right _ (List.mem_append_right _ (List.mem_append_right _ (List.mem_append_right _ (List.mem_append_right _ (List.mem_append_right _ (List.mem_append_right _ (List.mem_append_right _ (List.mem_append_right _ (List.mem_append_right _ (List.mem_append_right _ (List.mem_append_left _ (h)))))))))))))))))))))))))))))))))))
theorem am_rin29 : ∀ w ∈ wsL_law_r29, w ∈ wsL_law := fun _ h => List.mem_append_left _ (List.mem_append_left _ (List.mem_append_left _ (List.mem_append_left _ (List.mem_append_left _ (List.mem_append_left _ (List.mem_append_left _ (List.mem_append_right _ (List.mem_append_right _ (List.mem_append_right _ (List.mem_append_right _ (List.mem_append_right _ (List.mem_append_right _ (List.mem_append_right _ (List.mem_append_right _ (List.mem_append_right _ (List.mem_append_right _ (List.mem_append_right _ (List.mem_append_right _ (List.mem_append_right _ (List.mem_append_right _ (List.mem_append_right _ (List.mem_append_right _ (List.mem_append_right _ (List.mem_append_right _ (List.mem_append_right _ (List.mem_append_right _ (List.mem_append_right _ (List.mem_append_right _ (List.mem_append_right _ (List.mem_append_right _ (List.mem_append_right _ (List.mem_append_right _ (List.mem_append_right _ (List.mem_append_right _ (List.mem_append_left _ (h))))))))))))))))))))))))))))))))))))
theorem am_rin30 : ∀ w ∈ wsL_law_r30, w ∈ wsL_law := fun _ h => List.mem_append_left _ (List.mem_append_left _ (List.mem_append_left _ (List.mem_append_left _ (List.mem_append_left _ (List.mem_append_left _ (List.mem_append_left _ (List.mem_append_right _ (List.mem_append_right _ (List.mem_append_right _ (List.mem_append_right _ (List.mem_append_right _ (List.mem_append_right _ (List.mem_append_right _ (List.mem_append_right _ (List.mem_append_right _ (List.mem_append_right _ (List.mem_append_right _ (List.mem_append_right _ (List.mem_append_right _ (List.mem_append_right _ (List.mem_append_right _ (List.mem_append_right _ (List.mem_append_right _ (List.mem_append_right _ (List.mem_append_right _ (List.mem_append_right _ (List.mem_append_right _ (List.mem_append_right _ (List.mem_append_right _ (List.mem_append_right _ (List.mem_append_right _ (List.mem_append_right _ (List.mem_append_right _ (List.mem_append_right _ (List.mem_append_right _ (List.mem_append_left _ (h)))))))))))))))))))))))))))))))))))))
theorem am_rin31 : ∀ w ∈ wsL_law_r31, w ∈ wsL_law := fun _ h => List.mem_append_left _ (List.mem_append_left _ (List.mem_append_left _ (List.mem_append_left _ (List.mem_append_left _ (List.mem_append_left _ (List.mem_append_left _ (List.mem_append_right _ (List.mem_append_right _ (List.mem_append_right _ (List.mem_append_right _ (List.mem_append_right _ (List.mem_append_right _ (List.mem_append_right _ (List.mem_append_right _ (List.mem_append_right _ (List.mem_append_right _ (List.mem_append_right _ (List.mem_append_right _ (List.mem_append_right _ (List.mem_append_right _ (List.mem_append_right _ (List.mem_append_right _ (List.mem_append_right _ (List.mem_append_right _ (List.mem_append_right _ (List.mem_append_right _ (List.mem_append_right _ (List.mem_append_right _ (List.mem_append_right _ (List.mem_append_right _ (List.mem_append_right _ (List.mem_append_right _ (List.mem_append_right _ (List.mem_append_right _ (List.mem_append_right _ (List.mem_append_right _ (List.mem_append_left _ (h))))))))))))))))))))))))))))))))))))))
theorem am_rin32 : ∀ w ∈ wsL_law_r32, w ∈ wsL_law := fun _ h => List.mem_append_left _ (List.mem_append_left _ (List.mem_append_left _ (List.mem_append_left _ (List.mem_append_left _ (List.mem_append_left _ (List.mem_append_left _ (List.mem_append_right _ (List.mem_append_right _ (List.mem_append_right _ (List.mem_append_right _ (List.mem_append_right _ (List.mem_append_right _ (List.mem_append_right _ (List.mem_append_right _ (List.mem_append_right _ (List.mem_append_right _ (List.mem_append_right _ (List.mem_append_right _ (List.mem_append_right _ (List.mem_append_right _ (List.mem_append_right _ (List.mem_append_right _ (List.mem_append_right _ (List.mem_append_right _ (List.mem_append_right _ (List.mem_append_right _ (List.mem_append_right _ (List.mem_append_right _ (List.mem_append_right _ (List.mem_append_right _ (List.mem_append_right _ (List.mem_append_right _ (List.mem_append_right _ (List.mem_append_right _ (List.mem_append_right _ (List.mem_append_right _ (List.mem_append_right _ (List.mem_append_left _ (h)))))))))))))))))))))))))))))))))))))))
theorem am_rin33 : ∀ w ∈ wsL_law_r33, w ∈ wsL_law := fun _ h => List.mem_append_left _ (List.mem_append_left _ (List.mem_append_left _ (List.mem_append_left _ (List.mem_append_left _ (List.mem_append_left _ (List.mem_append_left _ (List.mem_append_right _ (List.mem_append_right _ (List.mem_append_right _ (List.mem_append_right _ (List.mem_append_right _ (List.mem_append_right _ (List.mem_append_right _ (List.mem_append_right _ (List.mem_append_right _ (List.mem_append_right _ (List.mem_append_right _ (List.mem_append_right _ (List.mem_append_right _ (List.mem_append_right _ (List.mem_append_right _ (List.mem_append_right _ (List.mem_append_right _ (List.mem_append_right _ (List.mem_append_right _ (List.mem_append_right _ (List.mem_append_right _ (List.mem_append_right _ (List.mem_append_right _ (List.mem_append_right _ (List.mem_append_right _ (List.mem_append_right _ (List.mem_append_right _ (List.mem_append_right _ (List.mem_append_right _ (List.mem_append_right _ (List.mem_append_right _ (List.mem_append_right _ (List.mem_append_left _ (h))))))))))))))))))))))))))))))))))))))))
theorem am_rin34 : ∀ w ∈ wsL_law_r34, w ∈ wsL_law := fun _ h => List.mem_append_left _ (List.mem_append_left _ (List.mem_append_left _ (List.mem_append_left _ (List.mem_append_left _ (List.mem_append_left _ (List.mem_append_left _ (List.mem_append_right _ (List.mem_append_right _ (List.mem_append_right _ (List.mem_append_right _ (List.mem_append_right _ (List.mem_append_right _ (List.mem_append_right _ (List.mem_append_right _ (List.mem_append_right _ (List.mem_append_right _ (List.mem_append_right _ (List.mem_append_right _ (List.mem_append_right _ (List.mem_append_right _ (List.mem_append_right _ (List.mem_append_right _ (List.mem_append_right _ (List.mem_append_right _ (List.mem_append_right _ (List.mem_append_right _ (List.mem_append_right _ (List.mem_append_right _ (List.mem_append_right _ (List.mem_append_right _ (List.mem_append_right _ (List.mem_append_right _ (List.mem_append_right _ (List.mem_append_right _ (List.mem_append_right _ (List.mem_append_right _ (List.mem_append_right _ (List.mem_append_right _ (List.mem_append_right _ (List.mem_append_left _ (h)))))))))))))))))))))))))))))))))))))))))
theorem am_rin35 : ∀ w ∈ wsL_law_r35, w ∈ wsL_law := fun _ h => List.mem_append_left _ (List.mem_append_left _ (List.mem_append_left _ (List.mem_append_left _ (List.mem_append_left _ (List.mem_append_left _ (List.mem_append_left _ (List.mem_append_right _ (List.mem_append_right _ (List.mem_append_right _ (List.mem_append_right _ (List.mem_append_right _ (List.mem_append_right _ (List.mem_append_right _ (List.mem_append_right _ (List.mem_append_right _ (List.mem_append_right _ (List.mem_append_right _ (List.mem_append_right _ (List.mem_append_right _ (List.mem_append_right _ (List.mem_append_right _ (List.mem_append_right _ (List.mem_append_right _ (List.mem_append_right _ (List.mem_append_right _ (List.mem_append_right _ (List.mem_append_right _ (List.mem_append_right _ (List.mem_append_right _ (List.mem_append_right _ (List.mem_append_right _ (List.mem_append_right _ (List.mem_append_right _ (List.mem_append_right _ (List.mem_append_right _ (List.mem_append_right _ (List.mem_append_right _ (List.mem_append_right _ (List.mem_append_right _ (List.mem_append_right _ (List.mem_append_left _ (h))))))))))))))))))))))))))))))))))))))))))
theorem am_rin36 : ∀ w ∈ wsL_law_r36, w ∈ wsL_law := fun _ h => List.mem_append_left _ (List.mem_append_left _ (List.mem_append_left _ (List.mem_append_left _ (List.mem_append_left _ (List.mem_append_left _ (List.mem_append_left _ (List.mem_append_right _ (List.mem_append_right _ (List.mem_append_right _ (List.mem_append_right _ (List.mem_append_right _ (List.mem_append_right _ (List.mem_append_right _ (List.mem_append_right _ (List.mem_append_right _ (List.mem_append_right _ (List.mem_append_right _ (List.mem_append_right _ (List.mem_append_right _ (List.mem_append_right _ (List.mem_append_right _ (List.mem_append_right _ (List.mem_append_right _ (List.mem_append_right _ (List.mem_append_right _ (List.mem_append_right _ (List.mem_append_right _ (List.mem_append_right _ (List.mem_append_right _ (List.mem_append_right _ (List.mem_append_right _ (List.mem_append_right _ (List.mem_append_right _ (List.mem_append_right _ (List.mem_append_right _ (List.mem_append_right _ (List.mem_append_right _ (List.mem_append_right _ (List.mem_append_right _ (List.mem_append_right _ (List.mem_append_right _ (List.mem_append_left _ (h)))))))))))))))))))))))))))))))))))))))))))
theorem am_rin37 : ∀ w ∈ wsL_law_r37, w ∈ wsL_law := fun _ h => List.mem_append_left _ (List.mem_append_left _ (List.mem_append_left _ (List.mem_append_left _ (List.mem_append_left _ (List.mem_append_left _ (List.mem_append_left _ (List.mem_append_right _ (List.mem_append_right _ (List.mem_append_right _ (List.mem_append_right _ (List.mem_append_right _ (List.mem_append_right _ (List.mem_append_right _ (List.mem_append_right _ (List.mem_append_right _ (List.mem_append_right _ (List.mem_append_right _ (List.mem_append_right _ (List.mem_append_right _ (List.mem_append_right _ (List.mem_append_right _ (List.mem_append_right _ (List.mem_append_right _ (List.mem_append_right _ (List.mem_append_right _ (List.mem_append_right _ (List.mem_append_right _ (List.mem_append_right _ (List.mem_append_right _ (List.mem_append_right _ (List.mem_append_right _ (List.mem_append_right _ (List.mem_append_right _ (List.mem_append_right _ (List.mem_append_right _ (List.mem_append_right _ (List.mem_append_right _ (List.mem_append_right _ (List.mem_append_right _ (List.mem_append_right _ (List.mem_append_right _ (List.mem_append_right _ (List.mem_append_left _ (h))))))))))))))))))))))))))))))))))))))))))))
theorem am_rin38 : ∀ w ∈ wsL_law_r38, w ∈ wsL_law := fun _ h => List.mem_append_left _ (List.mem_append_left _ (List.mem_append_left _ (List.mem_append_left _ (List.mem_append_left _ (List.mem_append_left _ (List.mem_append_left _ (List.mem_append_right _ (List.mem_append_right _ (List.mem_append_right _ (List.mem_append_right _ (List.mem_append_right _ (List.mem_append_right _ (List.mem_append_right _ (List.mem_append_right _ (List.mem_append_right _ (List.mem_append_right _ (List.mem_append_right _ (List.mem_append_right _ (List.mem_append_right _ (List.mem_append_right _ (List.mem_append_right _ (List.mem_append_right _ (List.mem_append_right _ (List.mem_append_right _ (List.mem_append_right _ (List.mem_append_right _ (List.mem_append_right _ (List.mem_append_right _ (List.mem_append_right _ (List.mem_append_right _ (List.mem_append_right _ (List.mem_append_right _ (List.mem_append_right _ (List.mem_append_right _ (List.mem_append_right _ (List.mem_append_right _ (List.mem_append_right _ (List.mem_append_right _ (List.mem_append_right _ (List.mem_append_right _ (List.mem_append_right _ (List.mem_append_right _ (List.mem_append_right _ (List.mem_append_left _ (h)))))))))))))))))))))))))))))))))))))))))))))
theorem am_rin39 : ∀ w ∈ wsL_law_r39, w ∈ wsL_law := fun _ h => List.mem_append_left _ (List.mem_append_left _ (List.mem_append_left _ (List.mem_append_left _ (List.mem_append_left _ (List.mem_append_left _ (List.mem_append_left _ (List.mem_append_right _ (List.mem_append_right _ (List.mem_append_right _ (List.mem_append_right _ (List.mem_append_right _ (List.mem_append_right _ (List.mem_append_right _ (List.mem_append_right _ (List.mem_append_right _ (List.mem_append_right _ (List.mem_append_right _ (List.mem_append_right _ (List.mem_append_right _ (List.mem_append_right _ (List.mem_append_right _ (List.mem_append_right _ (List.mem_append_right _ (List.mem_append_right _ (List.mem_append_right _ (List.mem_append_right _ (List.mem_append_right _ (List.mem_append_right _ (List.mem_append_right _ (List.mem_append_right _ (List.mem_append_right _ (List.mem_append_right _ (List.mem_append_right _ (List.mem_append_right _ (List.mem_append_right _ (List.mem_append_right _ (List.mem_append_right _ (List.mem_append_right _ (List.mem_append_right _ (List.mem_append_right _ (List.mem_append_right _ (List.mem_append_right _ (List.mem_append_right _ (List.mem_append_right _ (List.mem_append_left _ (h))))))))))))))))))))))))))))))))))))))))))))))
theorem am_rin40 : ∀ w ∈ wsL_law_r40, w ∈ wsL_law := fun _ h => List.mem_append_left _ (List.mem_append_left _ (List.mem_append_left _ (List.mem_append_left _ (List.mem_append_left _ (List.mem_append_left _ (List.mem_append_left _ (List.mem_append_right _ (List.mem_append_right _ (List.mem_append_right _ (List.mem_append_right _ (List.mem_append_right _ (List.mem_append_right _ (List.mem_append_right _ (List.mem_append_right _ (List.mem_append_right _ (List.mem_append_right _ (List.mem_append_right _ (List.mem_append_right _ (List.mem_append_right _ (List.mem_append_right _ (List.mem_append_right _ (List.mem_append_right _ (List.mem_append_right _ (List.mem_append_right _ (List.mem_append_right _ (List.mem_append_right _ (List.mem_append_right _ (List.mem_append_right _ (List.mem_append_right _ (List.mem_append_right _ (List.mem_append_right _ (List.mem_append_right _ (List.mem_append_right _ (List.mem_append_right _ (List.mem_append_right _ (List.mem_append_right _ (List.mem_append_right _ (List.mem_append_right _ (List.mem_append_right _ (List.mem_append_right _ (List.mem_append_right _ (List.mem_append_right _ (List.mem_append_right _ (List.mem_append_right _ (List.mem_append_right _ (List.mem_append_left _ (h)))))))))))))))))))))))))))))))))))))))))))))))
theorem am_rin41 : ∀ w ∈ wsL_law_r41, w ∈ wsL_law := fun _ h => List.mem_append_left _ (List.mem_append_left _ (List.mem_append_left _ (List.mem_append_left _ (List.mem_append_left _ (List.mem_append_left _ (List.mem_append_left _ (List.mem_append_right _ (List.mem_append_right _ (List.mem_append_right _ (List.mem_append_right _ (List.mem_append_right _ (List.mem_append_right _ (List.mem_append_right _ (List.mem_append_right _ (List.mem_append_right _ (List.mem_append_right _ (List.mem_append_right _ (List.mem_append_right _ (List.mem_append_right _ (List.mem_append_right _ (List.mem_append_right _ (List.mem_append_right _ (List.mem_append_right _ (List.mem_append_right _ (List.mem_append_right _ (List.mem_append_right _ (List.mem_append_right _ (List.mem_append_right _ (List.mem_append_right _ (List.mem_append_right _ (List.mem_append_right _ (List.mem_append_right _ (List.mem_append_right _ (List.mem_append_right _ (List.mem_append_right _ (List.mem_append_right _ (List.mem_append_right _ (List.mem_append_right _ (List.mem_append_right _ (List.mem_append_right _ (List.mem_append_right _ (List.mem_append_right _ (List.mem_append_right _ (List.mem_append_right _ (List.mem_append_right _ (List.mem_append_right _ (List.mem_append_left _ (h))))))))))))))))))))))))))))))))))))))))))))))))
theorem am_rin42 : ∀ w ∈ wsL_law_r42, w ∈ wsL_law := fun _ h => List.mem_append_left _ (List.mem_append_left _ (List.mem_append_left _ (List.mem_append_left _ (List.mem_append_left _ (List.mem_append_left _ (List.mem_append_left _ (List.mem_append_right _ (List.mem_append_right _ (List.mem_append_right _ (List.mem_append_right _ (List.mem_append_right _ (List.mem_append_right _ (List.mem_append_right _ (List.mem_append_right _ (List.mem_append_right _ (List.mem_append_right _ (List.mem_append_right _ (List.mem_append_right _ (List.mem_append_right _ (List.mem_append_right _ (List.mem_append_right _ (List.mem_append_right _ (List.mem_append_right _ (List.mem_append_right _ (List.mem_append_right _ (List.mem_append_right _ (List.mem_append_right _ (List.mem_append_right _ (List.mem_append_right _ (List.mem_append_right _ (List.mem_append_right _ (List.mem_append_right _ (List.mem_append_right _ (List.mem_append_right _ (List.mem_append_right _ (List.mem_append_right _ (List.mem_append_right _ (List.mem_append_right _ (List.mem_append_right _ (List.mem_append_right _ (List.mem_append_right _ (List.mem_append_right _ (List.mem_append_right _ (List.mem_append_right _ (List.mem_append_right _ (List.mem_append_right _ (List.mem_append_right _ (List.mem_append_left _ (h)))))))))))))))))))))))))))))))))))))))))))))))))
theorem am_rin43 : ∀ w ∈ wsL_law_r43, w ∈ wsL_law := fun _ h => List.mem_append_left _ (List.mem_append_left _ (List.mem_append_left _ (List.mem_append_left _ (List.mem_append_left _ (List.mem_append_left _ (List.mem_append_left _ (List.mem_append_right _ (List.mem_append_right _ (List.mem_append_right _ (List.mem_append_right _ (List.mem_append_right _ (List.mem_append_right _ (List.mem_append_right _ (List.mem_append_right _ (List.mem_append_right _ (List.mem_append_right _ (List.mem_append_right _ (List.mem_append_right _ (List.mem_append_right _ (List.mem_append_right _ (List.mem_append_right _ (List.mem_append_right _ (List.mem_append_right _ (List.mem_append_right _ (List.mem_append_right _ (List.mem_append_right _ (List.mem_append_right _ (List.mem_append_right _ (List.mem_append_right _ (List.mem_append_right _ (List.mem_append_right _ (List.mem_append_right _ (List.mem_append_right _ (List.mem_append_right _ (List.mem_append_right _ (List.mem_append_right _ (List.mem_append_right _ (List.mem_append_right _ (List.mem_append_right _ (List.mem_append_right _ (List.mem_append_right _ (List.mem_append_right _ (List.mem_append_right _ (List.mem_append_right _ (List.mem_append_right _ (List.mem_append_right _ (List.mem_append_right _ (List.mem_append_right _ (h)))))))))))))))))))))))))))))))))))))))))))))))))
theorem am_wc0 : Jvm.Cond.code (am_y 0) (am_cc 0) (am_mx 0) (am_rt 0) ∈ wsL_law := am_rin3 _ (List.mem_of_getElem? (i := 1) rfl)
theorem am_wc1 : Jvm.Cond.code (am_y 1) (am_cc 1) (am_mx 1) (am_rt 1) ∈ wsL_law := am_rin23 _ (List.mem_of_getElem? (i := 18) rfl)
theorem am_wc2 : Jvm.Cond.code (am_y 2) (am_cc 2) (am_mx 2) (am_rt 2) ∈ wsL_law := am_rin32 _ (List.mem_of_getElem? (i := 7) rfl)
theorem am_wc3 : Jvm.Cond.code (am_y 3) (am_cc 3) (am_mx 3) (am_rt 3) ∈ wsL_law := am_rin32 _ (List.mem_of_getElem? (i := 12) rfl)
theorem am_wc4 : Jvm.Cond.code (am_y 4) (am_cc 4) (am_mx 4) (am_rt 4) ∈ wsL_law := am_rin32 _ (List.mem_of_getElem? (i := 18) rfl)
theorem am_wc5 : Jvm.Cond.code (am_y 5) (am_cc 5) (am_mx 5) (am_rt 5) ∈ wsL_law := am_rin32 _ (List.mem_of_getElem? (i := 22) rfl)
theorem am_wc6 : Jvm.Cond.code (am_y 6) (am_cc 6) (am_mx 6) (am_rt 6) ∈ wsL_law := am_rin33 _ (List.mem_of_getElem? (i := 2) rfl)
theorem am_wc7 : Jvm.Cond.code (am_y 7) (am_cc 7) (am_mx 7) (am_rt 7) ∈ wsL_law := am_rin33 _ (List.mem_of_getElem? (i := 5) rfl)
theorem am_wc8 : Jvm.Cond.code (am_y 8) (am_cc 8) (am_mx 8) (am_rt 8) ∈ wsL_law := am_rin33 _ (List.mem_of_getElem? (i := 10) rfl)
theorem am_wc9 : Jvm.Cond.code (am_y 9) (am_cc 9) (am_mx 9) (am_rt 9) ∈ wsL_law := am_rin4 _ (List.mem_of_getElem? (i := 18) rfl)
theorem am_wc10 : Jvm.Cond.code (am_y 10) (am_cc 10) (am_mx 10) (am_rt 10) ∈ wsL_law := am_rin4 _ (List.mem_of_getElem? (i := 23) rfl)
theorem am_wc11 : Jvm.Cond.code (am_y 11) (am_cc 11) (am_mx 11) (am_rt 11) ∈ wsL_law := am_rin5 _ (List.mem_of_getElem? (i := 2) rfl)
theorem am_wc12 : Jvm.Cond.code (am_y 12) (am_cc 12) (am_mx 12) (am_rt 12) ∈ wsL_law := am_rin5 _ (List.mem_of_getElem? (i := 6) rfl)
theorem am_wc13 : Jvm.Cond.code (am_y 13) (am_cc 13) (am_mx 13) (am_rt 13) ∈ wsL_law := am_rin5 _ (List.mem_of_getElem? (i := 10) rfl)
theorem am_wc14 : Jvm.Cond.code (am_y 14) (am_cc 14) (am_mx 14) (am_rt 14) ∈ wsL_law := am_rin5 _ (List.mem_of_getElem? (i := 14) rfl)
theorem am_wc15 : Jvm.Cond.code (am_y 15) (am_cc 15) (am_mx 15) (am_rt 15) ∈ wsL_law := am_rin5 _ (List.mem_of_getElem? (i := 17) rfl)
theorem am_wc16 : Jvm.Cond.code (am_y 16) (am_cc 16) (am_mx 16) (am_rt 16) ∈ wsL_law := am_rin5 _ (List.mem_of_getElem? (i := 20) rfl)
theorem am_wc17 : Jvm.Cond.code (am_y 17) (am_cc 17) (am_mx 17) (am_rt 17) ∈ wsL_law := am_rin6 _ (List.mem_of_getElem? (i := 0) rfl)
theorem am_wc18 : Jvm.Cond.code (am_y 18) (am_cc 18) (am_mx 18) (am_rt 18) ∈ wsL_law := am_rin6 _ (List.mem_of_getElem? (i := 4) rfl)
theorem am_wc19 : Jvm.Cond.code (am_y 19) (am_cc 19) (am_mx 19) (am_rt 19) ∈ wsL_law := am_rin6 _ (List.mem_of_getElem? (i := 8) rfl)
theorem am_wc20 : Jvm.Cond.code (am_y 20) (am_cc 20) (am_mx 20) (am_rt 20) ∈ wsL_law := am_rin6 _ (List.mem_of_getElem? (i := 12) rfl)
theorem am_wc21 : Jvm.Cond.code (am_y 21) (am_cc 21) (am_mx 21) (am_rt 21) ∈ wsL_law := am_rin6 _ (List.mem_of_getElem? (i := 16) rfl)
theorem am_wc22 : Jvm.Cond.code (am_y 22) (am_cc 22) (am_mx 22) (am_rt 22) ∈ wsL_law := am_rin7 _ (List.mem_of_getElem? (i := 3) rfl)
theorem am_wc23 : Jvm.Cond.code (am_y 23) (am_cc 23) (am_mx 23) (am_rt 23) ∈ wsL_law := am_rin7 _ (List.mem_of_getElem? (i := 7) rfl)
theorem am_wc24 : Jvm.Cond.code (am_y 24) (am_cc 24) (am_mx 24) (am_rt 24) ∈ wsL_law := am_rin7 _ (List.mem_of_getElem? (i := 11) rfl)
theorem am_wc25 : Jvm.Cond.code (am_y 25) (am_cc 25) (am_mx 25) (am_rt 25) ∈ wsL_law := am_rin7 _ (List.mem_of_getElem? (i := 15) rfl)
theorem am_wc26 : Jvm.Cond.code (am_y 26) (am_cc 26) (am_mx 26) (am_rt 26) ∈ wsL_law := am_rin7 _ (List.mem_of_getElem? (i := 19) rfl)
theorem am_wc27 : Jvm.Cond.code (am_y 27) (am_cc 27) (am_mx 27) (am_rt 27) ∈ wsL_law := am_rin7 _ (List.mem_of_getElem? (i := 23) rfl)
theorem am_wc28 : Jvm.Cond.code (am_y 28) (am_cc 28) (am_mx 28) (am_rt 28) ∈ wsL_law := am_rin8 _ (List.mem_of_getElem? (i := 3) rfl)
theorem am_wc29 : Jvm.Cond.code (am_y 29) (am_cc 29) (am_mx 29) (am_rt 29) ∈ wsL_law := am_rin8 _ (List.mem_of_getElem? (i := 6) rfl)
theorem am_wc30 : Jvm.Cond.code (am_y 30) (am_cc 30) (am_mx 30) (am_rt 30) ∈ wsL_law := am_rin8 _ (List.mem_of_getElem? (i := 10) rfl)
theorem am_wc31 : Jvm.Cond.code (am_y 31) (am_cc 31) (am_mx 31) (am_rt 31) ∈ wsL_law := am_rin8 _ (List.mem_of_getElem? (i := 14) rfl)
theorem am_wc32 : Jvm.Cond.code (am_y 32) (am_cc 32) (am_mx 32) (am_rt 32) ∈ wsL_law := am_rin8 _ (List.mem_of_getElem? (i := 18) rfl)
theorem am_wc33 : Jvm.Cond.code (am_y 33) (am_cc 33) (am_mx 33) (am_rt 33) ∈ wsL_law := am_rin8 _ (List.mem_of_getElem? (i := 21) rfl)
theorem am_wc34 : Jvm.Cond.code (am_y 34) (am_cc 34) (am_mx 34) (am_rt 34) ∈ wsL_law := am_rin9 _ (List.mem_of_getElem? (i := 1) rfl)
theorem am_wc35 : Jvm.Cond.code (am_y 35) (am_cc 35) (am_mx 35) (am_rt 35) ∈ wsL_law := am_rin9 _ (List.mem_of_getElem? (i := 5) rfl)
theorem am_wc36 : Jvm.Cond.code (am_y 36) (am_cc 36) (am_mx 36) (am_rt 36) ∈ wsL_law := am_rin9 _ (List.mem_of_getElem? (i := 12) rfl)
theorem am_wc37 : Jvm.Cond.code (am_y 37) (am_cc 37) (am_mx 37) (am_rt 37) ∈ wsL_law := am_rin9 _ (List.mem_of_getElem? (i := 16) rfl)
theorem am_wc38 : Jvm.Cond.code (am_y 38) (am_cc 38) (am_mx 38) (am_rt 38) ∈ wsL_law := am_rin9 _ (List.mem_of_getElem? (i := 20) rfl)
theorem am_wc39 : Jvm.Cond.code (am_y 39) (am_cc 39) (am_mx 39) (am_rt 39) ∈ wsL_law := am_rin10 _ (List.mem_of_getElem? (i := 0) rfl)
theorem am_wc40 : Jvm.Cond.code (am_y 40) (am_cc 40) (am_mx 40) (am_rt 40) ∈ wsL_law := am_rin10 _ (List.mem_of_getElem? (i := 4) rfl)
theorem am_wc41 : Jvm.Cond.code (am_y 41) (am_cc 41) (am_mx 41) (am_rt 41) ∈ wsL_law := am_rin10 _ (List.mem_of_getElem? (i := 8) rfl)
theorem am_wc42 : Jvm.Cond.code (am_y 42) (am_cc 42) (am_mx 42) (am_rt 42) ∈ wsL_law := am_rin10 _ (List.mem_of_getElem? (i := 12) rfl)
theorem am_wc43 : Jvm.Cond.code (am_y 43) (am_cc 43) (am_mx 43) (am_rt 43) ∈ wsL_law := am_rin10 _ (List.mem_of_getElem? (i := 16) rfl)
theorem am_wc44 : Jvm.Cond.code (am_y 44) (am_cc 44) (am_mx 44) (am_rt 44) ∈ wsL_law := am_rin10 _ (List.mem_of_getElem? (i := 21) rfl)
theorem am_wc45 : Jvm.Cond.code (am_y 45) (am_cc 45) (am_mx 45) (am_rt 45) ∈ wsL_law := am_rin11 _ (List.mem_of_getElem? (i := 2) rfl)
theorem am_wc46 : Jvm.Cond.code (am_y 46) (am_cc 46) (am_mx 46) (am_rt 46) ∈ wsL_law := am_rin11 _ (List.mem_of_getElem? (i := 6) rfl)
theorem am_wc47 : Jvm.Cond.code (am_y 47) (am_cc 47) (am_mx 47) (am_rt 47) ∈ wsL_law := am_rin11 _ (List.mem_of_getElem? (i := 8) rfl)
theorem am_wc48 : Jvm.Cond.code (am_y 48) (am_cc 48) (am_mx 48) (am_rt 48) ∈ wsL_law := am_rin11 _ (List.mem_of_getElem? (i := 12) rfl)
theorem am_wc49 : Jvm.Cond.code (am_y 49) (am_cc 49) (am_mx 49) (am_rt 49) ∈ wsL_law := am_rin11 _ (List.mem_of_getElem? (i := 17) rfl)
theorem am_wc50 : Jvm.Cond.code (am_y 50) (am_cc 50) (am_mx 50) (am_rt 50) ∈ wsL_law := am_rin11 _ (List.mem_of_getElem? (i := 21) rfl)
theorem am_wc51 : Jvm.Cond.code (am_y 51) (am_cc 51) (am_mx 51) (am_rt 51) ∈ wsL_law := am_rin12 _ (List.mem_of_getElem? (i := 1) rfl)
theorem am_wc52 : Jvm.Cond.code (am_y 52) (am_cc 52) (am_mx 52) (am_rt 52) ∈ wsL_law := am_rin12 _ (List.mem_of_getElem? (i := 5) rfl)
theorem am_wc53 : Jvm.Cond.code (am_y 53) (am_cc 53) (am_mx 53) (am_rt 53) ∈ wsL_law := am_rin12 _ (List.mem_of_getElem? (i := 9) rfl)
theorem am_wc54 : Jvm.Cond.code (am_y 54) (am_cc 54) (am_mx 54) (am_rt 54) ∈ wsL_law := am_rin12 _ (List.mem_of_getElem? (i := 14) rfl)
theorem am_wc55 : Jvm.Cond.code (am_y 55) (am_cc 55) (am_mx 55) (am_rt 55) ∈ wsL_law := am_rin12 _ (List.mem_of_getElem? (i := 18) rfl)
theorem am_wc56 : Jvm.Cond.code (am_y 56) (am_cc 56) (am_mx 56) (am_rt 56) ∈ wsL_law := am_rin12 _ (List.mem_of_getElem? (i := 22) rfl)
theorem am_wc57 : Jvm.Cond.code (am_y 57) (am_cc 57) (am_mx 57) (am_rt 57) ∈ wsL_law := am_rin13 _ (List.mem_of_getElem? (i := 3) rfl)
theorem am_wc58 : Jvm.Cond.code (am_y 58) (am_cc 58) (am_mx 58) (am_rt 58) ∈ wsL_law := am_rin13 _ (List.mem_of_getElem? (i := 8) rfl)
theorem am_wc59 : Jvm.Cond.code (am_y 59) (am_cc 59) (am_mx 59) (am_rt 59) ∈ wsL_law := am_rin13 _ (List.mem_of_getElem? (i := 13) rfl)
theorem am_wc60 : Jvm.Cond.code (am_y 60) (am_cc 60) (am_mx 60) (am_rt 60) ∈ wsL_law := am_rin13 _ (List.mem_of_getElem? (i := 17) rfl)
theorem am_wc61 : Jvm.Cond.code (am_y 61) (am_cc 61) (am_mx 61) (am_rt 61) ∈ wsL_law := am_rin13 _ (List.mem_of_getElem? (i := 22) rfl)
theorem am_wc62 : Jvm.Cond.code (am_y 62) (am_cc 62) (am_mx 62) (am_rt 62) ∈ wsL_law := am_rin14 _ (List.mem_of_getElem? (i := 3) rfl)
theorem am_wc63 : Jvm.Cond.code (am_y 63) (am_cc 63) (am_mx 63) (am_rt 63) ∈ wsL_law := am_rin14 _ (List.mem_of_getElem? (i := 7) rfl)
theorem am_wc64 : Jvm.Cond.code (am_y 64) (am_cc 64) (am_mx 64) (am_rt 64) ∈ wsL_law := am_rin14 _ (List.mem_of_getElem? (i := 14) rfl)
theorem am_wc65 : Jvm.Cond.code (am_y 65) (am_cc 65) (am_mx 65) (am_rt 65) ∈ wsL_law := am_rin14 _ (List.mem_of_getElem? (i := 19) rfl)
theorem am_wc66 : Jvm.Cond.code (am_y 66) (am_cc 66) (am_mx 66) (am_rt 66) ∈ wsL_law := am_rin14 _ (List.mem_of_getElem? (i := 23) rfl)
theorem am_wc67 : Jvm.Cond.code (am_y 67) (am_cc 67) (am_mx 67) (am_rt 67) ∈ wsL_law := am_rin15 _ (List.mem_of_getElem? (i := 4) rfl)
theorem am_wc68 : Jvm.Cond.code (am_y 68) (am_cc 68) (am_mx 68) (am_rt 68) ∈ wsL_law := am_rin15 _ (List.mem_of_getElem? (i := 8) rfl)
theorem am_wc69 : Jvm.Cond.code (am_y 69) (am_cc 69) (am_mx 69) (am_rt 69) ∈ wsL_law := am_rin15 _ (List.mem_of_getElem? (i := 13) rfl)
theorem am_wc70 : Jvm.Cond.code (am_y 70) (am_cc 70) (am_mx 70) (am_rt 70) ∈ wsL_law := am_rin15 _ (List.mem_of_getElem? (i := 17) rfl)
theorem am_wc71 : Jvm.Cond.code (am_y 71) (am_cc 71) (am_mx 71) (am_rt 71) ∈ wsL_law := am_rin15 _ (List.mem_of_getElem? (i := 21) rfl)
theorem am_wc72 : Jvm.Cond.code (am_y 72) (am_cc 72) (am_mx 72) (am_rt 72) ∈ wsL_law := am_rin16 _ (List.mem_of_getElem? (i := 2) rfl)
theorem am_wc73 : Jvm.Cond.code (am_y 73) (am_cc 73) (am_mx 73) (am_rt 73) ∈ wsL_law := am_rin16 _ (List.mem_of_getElem? (i := 6) rfl)
theorem am_wc74 : Jvm.Cond.code (am_y 74) (am_cc 74) (am_mx 74) (am_rt 74) ∈ wsL_law := am_rin16 _ (List.mem_of_getElem? (i := 10) rfl)
theorem am_wc75 : Jvm.Cond.code (am_y 75) (am_cc 75) (am_mx 75) (am_rt 75) ∈ wsL_law := am_rin16 _ (List.mem_of_getElem? (i := 14) rfl)
theorem am_wc76 : Jvm.Cond.code (am_y 76) (am_cc 76) (am_mx 76) (am_rt 76) ∈ wsL_law := am_rin16 _ (List.mem_of_getElem? (i := 18) rfl)
theorem am_wc77 : Jvm.Cond.code (am_y 77) (am_cc 77) (am_mx 77) (am_rt 77) ∈ wsL_law := am_rin16 _ (List.mem_of_getElem? (i := 22) rfl)
theorem am_wc78 : Jvm.Cond.code (am_y 78) (am_cc 78) (am_mx 78) (am_rt 78) ∈ wsL_law := am_rin17 _ (List.mem_of_getElem? (i := 2) rfl)
theorem am_wc79 : Jvm.Cond.code (am_y 79) (am_cc 79) (am_mx 79) (am_rt 79) ∈ wsL_law := am_rin17 _ (List.mem_of_getElem? (i := 6) rfl)
theorem am_wc80 : Jvm.Cond.code (am_y 80) (am_cc 80) (am_mx 80) (am_rt 80) ∈ wsL_law := am_rin17 _ (List.mem_of_getElem? (i := 10) rfl)
theorem am_wc81 : Jvm.Cond.code (am_y 81) (am_cc 81) (am_mx 81) (am_rt 81) ∈ wsL_law := am_rin17 _ (List.mem_of_getElem? (i := 15) rfl)
theorem am_wc82 : Jvm.Cond.code (am_y 82) (am_cc 82) (am_mx 82) (am_rt 82) ∈ wsL_law := am_rin17 _ (List.mem_of_getElem? (i := 23) rfl)
theorem am_wc83 : Jvm.Cond.code (am_y 83) (am_cc 83) (am_mx 83) (am_rt 83) ∈ wsL_law := am_rin18 _ (List.mem_of_getElem? (i := 2) rfl)
theorem am_wc84 : Jvm.Cond.code (am_y 84) (am_cc 84) (am_mx 84) (am_rt 84) ∈ wsL_law := am_rin18 _ (List.mem_of_getElem? (i := 6) rfl)
theorem am_wc85 : Jvm.Cond.code (am_y 85) (am_cc 85) (am_mx 85) (am_rt 85) ∈ wsL_law := am_rin18 _ (List.mem_of_getElem? (i := 9) rfl)
theorem am_wc86 : Jvm.Cond.code (am_y 86) (am_cc 86) (am_mx 86) (am_rt 86) ∈ wsL_law := am_rin18 _ (List.mem_of_getElem? (i := 13) rfl)
theorem am_wc87 : Jvm.Cond.code (am_y 87) (am_cc 87) (am_mx 87) (am_rt 87) ∈ wsL_law := am_rin18 _ (List.mem_of_getElem? (i := 17) rfl)
theorem am_wc88 : Jvm.Cond.code (am_y 88) (am_cc 88) (am_mx 88) (am_rt 88) ∈ wsL_law := am_rin18 _ (List.mem_of_getElem? (i := 22) rfl)
theorem am_wc89 : Jvm.Cond.code (am_y 89) (am_cc 89) (am_mx 89) (am_rt 89) ∈ wsL_law := am_rin19 _ (List.mem_of_getElem? (i := 2) rfl)
theorem am_wc90 : Jvm.Cond.code (am_y 90) (am_cc 90) (am_mx 90) (am_rt 90) ∈ wsL_law := am_rin19 _ (List.mem_of_getElem? (i := 6) rfl)
theorem am_wc91 : Jvm.Cond.code (am_y 91) (am_cc 91) (am_mx 91) (am_rt 91) ∈ wsL_law := am_rin19 _ (List.mem_of_getElem? (i := 10) rfl)
theorem am_wc92 : Jvm.Cond.code (am_y 92) (am_cc 92) (am_mx 92) (am_rt 92) ∈ wsL_law := am_rin19 _ (List.mem_of_getElem? (i := 14) rfl)
theorem am_wc93 : Jvm.Cond.code (am_y 93) (am_cc 93) (am_mx 93) (am_rt 93) ∈ wsL_law := am_rin19 _ (List.mem_of_getElem? (i := 18) rfl)
theorem am_wc94 : Jvm.Cond.code (am_y 94) (am_cc 94) (am_mx 94) (am_rt 94) ∈ wsL_law := am_rin19 _ (List.mem_of_getElem? (i := 22) rfl)
theorem am_wc95 : Jvm.Cond.code (am_y 95) (am_cc 95) (am_mx 95) (am_rt 95) ∈ wsL_law := am_rin20 _ (List.mem_of_getElem? (i := 2) rfl)
theorem am_wc96 : Jvm.Cond.code (am_y 96) (am_cc 96) (am_mx 96) (am_rt 96) ∈ wsL_law := am_rin20 _ (List.mem_of_getElem? (i := 6) rfl)
theorem am_wc97 : Jvm.Cond.code (am_y 97) (am_cc 97) (am_mx 97) (am_rt 97) ∈ wsL_law := am_rin20 _ (List.mem_of_getElem? (i := 10) rfl)
theorem am_wc98 : Jvm.Cond.code (am_y 98) (am_cc 98) (am_mx 98) (am_rt 98) ∈ wsL_law := am_rin20 _ (List.mem_of_getElem? (i := 14) rfl)
theorem am_wc99 : Jvm.Cond.code (am_y 99) (am_cc 99) (am_mx 99) (am_rt 99) ∈ wsL_law := am_rin20 _ (List.mem_of_getElem? (i := 18) rfl)
theorem am_wc100 : Jvm.Cond.code (am_y 100) (am_cc 100) (am_mx 100) (am_rt 100) ∈ wsL_law := am_rin21 _ (List.mem_of_getElem? (i := 1) rfl)
theorem am_wc101 : Jvm.Cond.code (am_y 101) (am_cc 101) (am_mx 101) (am_rt 101) ∈ wsL_law := am_rin21 _ (List.mem_of_getElem? (i := 6) rfl)
theorem am_wc102 : Jvm.Cond.code (am_y 102) (am_cc 102) (am_mx 102) (am_rt 102) ∈ wsL_law := am_rin21 _ (List.mem_of_getElem? (i := 10) rfl)
theorem am_wc103 : Jvm.Cond.code (am_y 103) (am_cc 103) (am_mx 103) (am_rt 103) ∈ wsL_law := am_rin21 _ (List.mem_of_getElem? (i := 14) rfl)
theorem am_wc104 : Jvm.Cond.code (am_y 104) (am_cc 104) (am_mx 104) (am_rt 104) ∈ wsL_law := am_rin21 _ (List.mem_of_getElem? (i := 18) rfl)
theorem am_wc105 : Jvm.Cond.code (am_y 105) (am_cc 105) (am_mx 105) (am_rt 105) ∈ wsL_law := am_rin21 _ (List.mem_of_getElem? (i := 22) rfl)
theorem am_wc106 : Jvm.Cond.code (am_y 106) (am_cc 106) (am_mx 106) (am_rt 106) ∈ wsL_law := am_rin22 _ (List.mem_of_getElem? (i := 2) rfl)
theorem am_wc107 : Jvm.Cond.code (am_y 107) (am_cc 107) (am_mx 107) (am_rt 107) ∈ wsL_law := am_rin22 _ (List.mem_of_getElem? (i := 6) rfl)
theorem am_wc108 : Jvm.Cond.code (am_y 108) (am_cc 108) (am_mx 108) (am_rt 108) ∈ wsL_law := am_rin22 _ (List.mem_of_getElem? (i := 10) rfl)
theorem am_wc109 : Jvm.Cond.code (am_y 109) (am_cc 109) (am_mx 109) (am_rt 109) ∈ wsL_law := am_rin22 _ (List.mem_of_getElem? (i := 14) rfl)
theorem am_wc110 : Jvm.Cond.code (am_y 110) (am_cc 110) (am_mx 110) (am_rt 110) ∈ wsL_law := am_rin22 _ (List.mem_of_getElem? (i := 18) rfl)
theorem am_wc111 : Jvm.Cond.code (am_y 111) (am_cc 111) (am_mx 111) (am_rt 111) ∈ wsL_law := am_rin22 _ (List.mem_of_getElem? (i := 22) rfl)
theorem am_wc112 : Jvm.Cond.code (am_y 112) (am_cc 112) (am_mx 112) (am_rt 112) ∈ wsL_law := am_rin23 _ (List.mem_of_getElem? (i := 2) rfl)
theorem am_wc113 : Jvm.Cond.code (am_y 113) (am_cc 113) (am_mx 113) (am_rt 113) ∈ wsL_law := am_rin23 _ (List.mem_of_getElem? (i := 6) rfl)
theorem am_wc114 : Jvm.Cond.code (am_y 114) (am_cc 114) (am_mx 114) (am_rt 114) ∈ wsL_law := am_rin23 _ (List.mem_of_getElem? (i := 10) rfl)
theorem am_wc115 : Jvm.Cond.code (am_y 115) (am_cc 115) (am_mx 115) (am_rt 115) ∈ wsL_law := am_rin23 _ (List.mem_of_getElem? (i := 14) rfl)
theorem am_wc116 : Jvm.Cond.code (am_y 116) (am_cc 116) (am_mx 116) (am_rt 116) ∈ wsL_law := am_rin24 _ (List.mem_of_getElem? (i := 1) rfl)
theorem am_wc117 : Jvm.Cond.code (am_y 117) (am_cc 117) (am_mx 117) (am_rt 117) ∈ wsL_law := am_rin24 _ (List.mem_of_getElem? (i := 5) rfl)
theorem am_wc118 : Jvm.Cond.code (am_y 118) (am_cc 118) (am_mx 118) (am_rt 118) ∈ wsL_law := am_rin24 _ (List.mem_of_getElem? (i := 9) rfl)
theorem am_wc119 : Jvm.Cond.code (am_y 119) (am_cc 119) (am_mx 119) (am_rt 119) ∈ wsL_law := am_rin24 _ (List.mem_of_getElem? (i := 12) rfl)
theorem am_wc120 : Jvm.Cond.code (am_y 120) (am_cc 120) (am_mx 120) (am_rt 120) ∈ wsL_law := am_rin24 _ (List.mem_of_getElem? (i := 16) rfl)
theorem am_wc121 : Jvm.Cond.code (am_y 121) (am_cc 121) (am_mx 121) (am_rt 121) ∈ wsL_law := am_rin24 _ (List.mem_of_getElem? (i := 20) rfl)
theorem am_wc122 : Jvm.Cond.code (am_y 122) (am_cc 122) (am_mx 122) (am_rt 122) ∈ wsL_law := am_rin25 _ (List.mem_of_getElem? (i := 0) rfl)
theorem am_wc123 : Jvm.Cond.code (am_y 123) (am_cc 123) (am_mx 123) (am_rt 123) ∈ wsL_law := am_rin25 _ (List.mem_of_getElem? (i := 4) rfl)
theorem am_wc124 : Jvm.Cond.code (am_y 124) (am_cc 124) (am_mx 124) (am_rt 124) ∈ wsL_law := am_rin25 _ (List.mem_of_getElem? (i := 8) rfl)
theorem am_wc125 : Jvm.Cond.code (am_y 125) (am_cc 125) (am_mx 125) (am_rt 125) ∈ wsL_law := am_rin25 _ (List.mem_of_getElem? (i := 12) rfl)
theorem am_wc126 : Jvm.Cond.code (am_y 126) (am_cc 126) (am_mx 126) (am_rt 126) ∈ wsL_law := am_rin25 _ (List.mem_of_getElem? (i := 16) rfl)
theorem am_wc127 : Jvm.Cond.code (am_y 127) (am_cc 127) (am_mx 127) (am_rt 127) ∈ wsL_law := am_rin25 _ (List.mem_of_getElem? (i := 20) rfl)
theorem am_wc128 : Jvm.Cond.code (am_y 128) (am_cc 128) (am_mx 128) (am_rt 128) ∈ wsL_law := am_rin26 _ (List.mem_of_getElem? (i := 0) rfl)
theorem am_wc129 : Jvm.Cond.code (am_y 129) (am_cc 129) (am_mx 129) (am_rt 129) ∈ wsL_law := am_rin26 _ (List.mem_of_getElem? (i := 4) rfl)
theorem am_wc130 : Jvm.Cond.code (am_y 130) (am_cc 130) (am_mx 130) (am_rt 130) ∈ wsL_law := am_rin26 _ (List.mem_of_getElem? (i := 8) rfl)
theorem am_wc131 : Jvm.Cond.code (am_y 131) (am_cc 131) (am_mx 131) (am_rt 131) ∈ wsL_law := am_rin26 _ (List.mem_of_getElem? (i := 13) rfl)
theorem am_wc132 : Jvm.Cond.code (am_y 132) (am_cc 132) (am_mx 132) (am_rt 132) ∈ wsL_law := am_rin26 _ (List.mem_of_getElem? (i := 19) rfl)
theorem am_wc133 : Jvm.Cond.code (am_y 133) (am_cc 133) (am_mx 133) (am_rt 133) ∈ wsL_law := am_rin26 _ (List.mem_of_getElem? (i := 23) rfl)
theorem am_wc134 : Jvm.Cond.code (am_y 134) (am_cc 134) (am_mx 134) (am_rt 134) ∈ wsL_law := am_rin27 _ (List.mem_of_getElem? (i := 3) rfl)
theorem am_wc135 : Jvm.Cond.code (am_y 135) (am_cc 135) (am_mx 135) (am_rt 135) ∈ wsL_law := am_rin27 _ (List.mem_of_getElem? (i := 7) rfl)
theorem am_wc136 : Jvm.Cond.code (am_y 136) (am_cc 136) (am_mx 136) (am_rt 136) ∈ wsL_law := am_rin27 _ (List.mem_of_getElem? (i := 11) rfl)
theorem am_wc137 : Jvm.Cond.code (am_y 137) (am_cc 137) (am_mx 137) (am_rt 137) ∈ wsL_law := am_rin27 _ (List.mem_of_getElem? (i := 15) rfl)
theorem am_wc138 : Jvm.Cond.code (am_y 138) (am_cc 138) (am_mx 138) (am_rt 138) ∈ wsL_law := am_rin27 _ (List.mem_of_getElem? (i := 19) rfl)
theorem am_wc139 : Jvm.Cond.code (am_y 139) (am_cc 139) (am_mx 139) (am_rt 139) ∈ wsL_law := am_rin27 _ (List.mem_of_getElem? (i := 23) rfl)
theorem am_wc140 : Jvm.Cond.code (am_y 140) (am_cc 140) (am_mx 140) (am_rt 140) ∈ wsL_law := am_rin28 _ (List.mem_of_getElem? (i := 3) rfl)
theorem am_wc141 : Jvm.Cond.code (am_y 141) (am_cc 141) (am_mx 141) (am_rt 141) ∈ wsL_law := am_rin28 _ (List.mem_of_getElem? (i := 8) rfl)
theorem am_wc142 : Jvm.Cond.code (am_y 142) (am_cc 142) (am_mx 142) (am_rt 142) ∈ wsL_law := am_rin28 _ (List.mem_of_getElem? (i := 12) rfl)
theorem am_wc143 : Jvm.Cond.code (am_y 143) (am_cc 143) (am_mx 143) (am_rt 143) ∈ wsL_law := am_rin28 _ (List.mem_of_getElem? (i := 17) rfl)
theorem am_wc144 : Jvm.Cond.code (am_y 144) (am_cc 144) (am_mx 144) (am_rt 144) ∈ wsL_law := am_rin28 _ (List.mem_of_getElem? (i := 20) rfl)
theorem am_wc145 : Jvm.Cond.code (am_y 145) (am_cc 145) (am_mx 145) (am_rt 145) ∈ wsL_law := am_rin29 _ (List.mem_of_getElem? (i := 0) rfl)
theorem am_wc146 : Jvm.Cond.code (am_y 146) (am_cc 146) (am_mx 146) (am_rt 146) ∈ wsL_law := am_rin29 _ (List.mem_of_getElem? (i := 4) rfl)
theorem am_wc147 : Jvm.Cond.code (am_y 147) (am_cc 147) (am_mx 147) (am_rt 147) ∈ wsL_law := am_rin29 _ (List.mem_of_getElem? (i := 9) rfl)
theorem am_wc148 : Jvm.Cond.code (am_y 148) (am_cc 148) (am_mx 148) (am_rt 148) ∈ wsL_law := am_rin29 _ (List.mem_of_getElem? (i := 13) rfl)
theorem am_wc149 : Jvm.Cond.code (am_y 149) (am_cc 149) (am_mx 149) (am_rt 149) ∈ wsL_law := am_rin29 _ (List.mem_of_getElem? (i := 19) rfl)
theorem am_wc150 : Jvm.Cond.code (am_y 150) (am_cc 150) (am_mx 150) (am_rt 150) ∈ wsL_law := am_rin30 _ (List.mem_of_getElem? (i := 0) rfl)
theorem am_wc151 : Jvm.Cond.code (am_y 151) (am_cc 151) (am_mx 151) (am_rt 151) ∈ wsL_law := am_rin30 _ (List.mem_of_getElem? (i := 5) rfl)
theorem am_wc152 : Jvm.Cond.code (am_y 152) (am_cc 152) (am_mx 152) (am_rt 152) ∈ wsL_law := am_rin30 _ (List.mem_of_getElem? (i := 9) rfl)
theorem am_wc153 : Jvm.Cond.code (am_y 153) (am_cc 153) (am_mx 153) (am_rt 153) ∈ wsL_law := am_rin30 _ (List.mem_of_getElem? (i := 13) rfl)
theorem am_wc154 : Jvm.Cond.code (am_y 154) (am_cc 154) (am_mx 154) (am_rt 154) ∈ wsL_law := am_rin30 _ (List.mem_of_getElem? (i := 20) rfl)
theorem am_wc155 : Jvm.Cond.code (am_y 155) (am_cc 155) (am_mx 155) (am_rt 155) ∈ wsL_law := am_rin31 _ (List.mem_of_getElem? (i := 2) rfl)
theorem am_wc156 : Jvm.Cond.code (am_y 156) (am_cc 156) (am_mx 156) (am_rt 156) ∈ wsL_law := am_rin31 _ (List.mem_of_getElem? (i := 7) rfl)
theorem am_wc157 : Jvm.Cond.code (am_y 157) (am_cc 157) (am_mx 157) (am_rt 157) ∈ wsL_law := am_rin31 _ (List.mem_of_getElem? (i := 13) rfl)
theorem am_wc158 : Jvm.Cond.code (am_y 158) (am_cc 158) (am_mx 158) (am_rt 158) ∈ wsL_law := am_rin31 _ (List.mem_of_getElem? (i := 17) rfl)
theorem am_wc159 : Jvm.Cond.code (am_y 159) (am_cc 159) (am_mx 159) (am_rt 159) ∈ wsL_law := am_rin31 _ (List.mem_of_getElem? (i := 22) rfl)
theorem am_wc160 : Jvm.Cond.code (am_y 160) (am_cc 160) (am_mx 160) (am_rt 160) ∈ wsL_law := am_rin32 _ (List.mem_of_getElem? (i := 2) rfl)
theorem am_wc161 : Jvm.Cond.code (am_y 161) (am_cc 161) (am_mx 161) (am_rt 161) ∈ wsL_law := am_rin34 _ (List.mem_of_getElem? (i := 8) rfl)
theorem am_wc162 : Jvm.Cond.code (am_y 162) (am_cc 162) (am_mx 162) (am_rt 162) ∈ wsL_law := am_rin34 _ (List.mem_of_getElem? (i := 14) rfl)
theorem am_wc163 : Jvm.Cond.code (am_y 163) (am_cc 163) (am_mx 163) (am_rt 163) ∈ wsL_law := am_rin34 _ (List.mem_of_getElem? (i := 18) rfl)
theorem am_wc164 : Jvm.Cond.code (am_y 164) (am_cc 164) (am_mx 164) (am_rt 164) ∈ wsL_law := am_rin34 _ (List.mem_of_getElem? (i := 21) rfl)
theorem am_wc165 : Jvm.Cond.code (am_y 165) (am_cc 165) (am_mx 165) (am_rt 165) ∈ wsL_law := am_rin35 _ (List.mem_of_getElem? (i := 2) rfl)
theorem am_wc166 : Jvm.Cond.code (am_y 166) (am_cc 166) (am_mx 166) (am_rt 166) ∈ wsL_law := am_rin35 _ (List.mem_of_getElem? (i := 6) rfl)
theorem am_wc167 : Jvm.Cond.code (am_y 167) (am_cc 167) (am_mx 167) (am_rt 167) ∈ wsL_law := am_rin35 _ (List.mem_of_getElem? (i := 11) rfl)
theorem am_wc168 : Jvm.Cond.code (am_y 168) (am_cc 168) (am_mx 168) (am_rt 168) ∈ wsL_law := am_rin35 _ (List.mem_of_getElem? (i := 17) rfl)
theorem am_wc169 : Jvm.Cond.code (am_y 169) (am_cc 169) (am_mx 169) (am_rt 169) ∈ wsL_law := am_rin36 _ (List.mem_of_getElem? (i := 3) rfl)
theorem am_wc170 : Jvm.Cond.code (am_y 170) (am_cc 170) (am_mx 170) (am_rt 170) ∈ wsL_law := am_rin36 _ (List.mem_of_getElem? (i := 8) rfl)
theorem am_wc171 : Jvm.Cond.code (am_y 171) (am_cc 171) (am_mx 171) (am_rt 171) ∈ wsL_law := am_rin36 _ (List.mem_of_getElem? (i := 12) rfl)
theorem am_wc172 : Jvm.Cond.code (am_y 172) (am_cc 172) (am_mx 172) (am_rt 172) ∈ wsL_law := am_rin36 _ (List.mem_of_getElem? (i := 16) rfl)
theorem am_wc173 : Jvm.Cond.code (am_y 173) (am_cc 173) (am_mx 173) (am_rt 173) ∈ wsL_law := am_rin36 _ (List.mem_of_getElem? (i := 20) rfl)
theorem am_wc174 : Jvm.Cond.code (am_y 174) (am_cc 174) (am_mx 174) (am_rt 174) ∈ wsL_law := am_rin37 _ (List.mem_of_getElem? (i := 2) rfl)
theorem am_wc175 : Jvm.Cond.code (am_y 175) (am_cc 175) (am_mx 175) (am_rt 175) ∈ wsL_law := am_rin37 _ (List.mem_of_getElem? (i := 6) rfl)
theorem am_wc176 : Jvm.Cond.code (am_y 176) (am_cc 176) (am_mx 176) (am_rt 176) ∈ wsL_law := am_rin37 _ (List.mem_of_getElem? (i := 10) rfl)
theorem am_wc177 : Jvm.Cond.code (am_y 177) (am_cc 177) (am_mx 177) (am_rt 177) ∈ wsL_law := am_rin37 _ (List.mem_of_getElem? (i := 14) rfl)
theorem am_wc178 : Jvm.Cond.code (am_y 178) (am_cc 178) (am_mx 178) (am_rt 178) ∈ wsL_law := am_rin37 _ (List.mem_of_getElem? (i := 18) rfl)
theorem am_wc179 : Jvm.Cond.code (am_y 179) (am_cc 179) (am_mx 179) (am_rt 179) ∈ wsL_law := am_rin37 _ (List.mem_of_getElem? (i := 22) rfl)
theorem am_wc180 : Jvm.Cond.code (am_y 180) (am_cc 180) (am_mx 180) (am_rt 180) ∈ wsL_law := am_rin38 _ (List.mem_of_getElem? (i := 2) rfl)
theorem am_wc181 : Jvm.Cond.code (am_y 181) (am_cc 181) (am_mx 181) (am_rt 181) ∈ wsL_law := am_rin38 _ (List.mem_of_getElem? (i := 6) rfl)
theorem am_wc182 : Jvm.Cond.code (am_y 182) (am_cc 182) (am_mx 182) (am_rt 182) ∈ wsL_law := am_rin38 _ (List.mem_of_getElem? (i := 9) rfl)
theorem am_wc183 : Jvm.Cond.code (am_y 183) (am_cc 183) (am_mx 183) (am_rt 183) ∈ wsL_law := am_rin38 _ (List.mem_of_getElem? (i := 13) rfl)
theorem am_wc184 : Jvm.Cond.code (am_y 184) (am_cc 184) (am_mx 184) (am_rt 184) ∈ wsL_law := am_rin38 _ (List.mem_of_getElem? (i := 18) rfl)
theorem am_wc185 : Jvm.Cond.code (am_y 185) (am_cc 185) (am_mx 185) (am_rt 185) ∈ wsL_law := am_rin38 _ (List.mem_of_getElem? (i := 23) rfl)
theorem am_wc186 : Jvm.Cond.code (am_y 186) (am_cc 186) (am_mx 186) (am_rt 186) ∈ wsL_law := am_rin39 _ (List.mem_of_getElem? (i := 3) rfl)
theorem am_wc187 : Jvm.Cond.code (am_y 187) (am_cc 187) (am_mx 187) (am_rt 187) ∈ wsL_law := am_rin39 _ (List.mem_of_getElem? (i := 6) rfl)
theorem am_wc188 : Jvm.Cond.code (am_y 188) (am_cc 188) (am_mx 188) (am_rt 188) ∈ wsL_law := am_rin39 _ (List.mem_of_getElem? (i := 10) rfl)
theorem am_wc189 : Jvm.Cond.code (am_y 189) (am_cc 189) (am_mx 189) (am_rt 189) ∈ wsL_law := am_rin39 _ (List.mem_of_getElem? (i := 15) rfl)
theorem am_wc190 : Jvm.Cond.code (am_y 190) (am_cc 190) (am_mx 190) (am_rt 190) ∈ wsL_law := am_rin39 _ (List.mem_of_getElem? (i := 21) rfl)
theorem am_wc191 : Jvm.Cond.code (am_y 191) (am_cc 191) (am_mx 191) (am_rt 191) ∈ wsL_law := am_rin40 _ (List.mem_of_getElem? (i := 2) rfl)
theorem am_wc192 : Jvm.Cond.code (am_y 192) (am_cc 192) (am_mx 192) (am_rt 192) ∈ wsL_law := am_rin40 _ (List.mem_of_getElem? (i := 6) rfl)
theorem am_wc193 : Jvm.Cond.code (am_y 193) (am_cc 193) (am_mx 193) (am_rt 193) ∈ wsL_law := am_rin40 _ (List.mem_of_getElem? (i := 10) rfl)
theorem am_wc194 : Jvm.Cond.code (am_y 194) (am_cc 194) (am_mx 194) (am_rt 194) ∈ wsL_law := am_rin40 _ (List.mem_of_getElem? (i := 14) rfl)
theorem am_wc195 : Jvm.Cond.code (am_y 195) (am_cc 195) (am_mx 195) (am_rt 195) ∈ wsL_law := am_rin40 _ (List.mem_of_getElem? (i := 17) rfl)
theorem am_wc196 : Jvm.Cond.code (am_y 196) (am_cc 196) (am_mx 196) (am_rt 196) ∈ wsL_law := am_rin40 _ (List.mem_of_getElem? (i := 21) rfl)
theorem am_wc197 : Jvm.Cond.code (am_y 197) (am_cc 197) (am_mx 197) (am_rt 197) ∈ wsL_law := am_rin41 _ (List.mem_of_getElem? (i := 3) rfl)
theorem am_wc198 : Jvm.Cond.code (am_y 198) (am_cc 198) (am_mx 198) (am_rt 198) ∈ wsL_law := am_rin41 _ (List.mem_of_getElem? (i := 7) rfl)
theorem am_wc199 : Jvm.Cond.code (am_y 199) (am_cc 199) (am_mx 199) (am_rt 199) ∈ wsL_law := am_rin41 _ (List.mem_of_getElem? (i := 11) rfl)
theorem am_wc200 : Jvm.Cond.code (am_y 200) (am_cc 200) (am_mx 200) (am_rt 200) ∈ wsL_law := am_rin41 _ (List.mem_of_getElem? (i := 15) rfl)
theorem am_wc201 : Jvm.Cond.code (am_y 201) (am_cc 201) (am_mx 201) (am_rt 201) ∈ wsL_law := am_rin41 _ (List.mem_of_getElem? (i := 19) rfl)
theorem am_wc202 : Jvm.Cond.code (am_y 202) (am_cc 202) (am_mx 202) (am_rt 202) ∈ wsL_law := am_rin41 _ (List.mem_of_getElem? (i := 23) rfl)
theorem am_wc203 : Jvm.Cond.code (am_y 203) (am_cc 203) (am_mx 203) (am_rt 203) ∈ wsL_law := am_rin42 _ (List.mem_of_getElem? (i := 3) rfl)
theorem am_wc204 : Jvm.Cond.code (am_y 204) (am_cc 204) (am_mx 204) (am_rt 204) ∈ wsL_law := am_rin42 _ (List.mem_of_getElem? (i := 8) rfl)
theorem am_wc205 : Jvm.Cond.code (am_y 205) (am_cc 205) (am_mx 205) (am_rt 205) ∈ wsL_law := am_rin42 _ (List.mem_of_getElem? (i := 12) rfl)
theorem am_wc206 : Jvm.Cond.code (am_y 206) (am_cc 206) (am_mx 206) (am_rt 206) ∈ wsL_law := am_rin42 _ (List.mem_of_getElem? (i := 16) rfl)
theorem am_wc207 : Jvm.Cond.code (am_y 207) (am_cc 207) (am_mx 207) (am_rt 207) ∈ wsL_law := am_rin42 _ (List.mem_of_getElem? (i := 20) rfl)
theorem am_wc208 : Jvm.Cond.code (am_y 208) (am_cc 208) (am_mx 208) (am_rt 208) ∈ wsL_law := am_rin43 _ (List.mem_of_getElem? (i := 0) rfl)
theorem am_wc209 : Jvm.Cond.code (am_y 209) (am_cc 209) (am_mx 209) (am_rt 209) ∈ wsL_law := am_rin43 _ (List.mem_of_getElem? (i := 4) rfl)
theorem am_wc210 : Jvm.Cond.code (am_y 210) (am_cc 210) (am_mx 210) (am_rt 210) ∈ wsL_law := am_rin43 _ (List.mem_of_getElem? (i := 8) rfl)
theorem am_wc211 : Jvm.Cond.code (am_y 211) (am_cc 211) (am_mx 211) (am_rt 211) ∈ wsL_law := am_rin43 _ (List.mem_of_getElem? (i := 12) rfl)
theorem am_wc212 : Jvm.Cond.code (am_y 212) (am_cc 212) (am_mx 212) (am_rt 212) ∈ wsL_law := am_rin43 _ (List.mem_of_getElem? (i := 16) rfl)
def am_conj (P : Nat → Prop) : Nat → Prop
  | 0 => True
  | n + 1 => am_conj P n ∧ P n
theorem am_conj_all {P : Nat → Prop} : ∀ (n : Nat), am_conj P n → ∀ k, k < n → P k
  | 0, _, k, hk => absurd hk (Nat.not_lt_zero k)
  | n + 1, h, k, hk => by
    rcases Nat.lt_or_ge k n with q | q
    · exact am_conj_all n h.1 k q
    · rw [show k = n by omega]; exact h.2
set_option maxRecDepth 100000 in
theorem am_w_code : ∀ k, k < 213 → Jvm.Cond.code (am_y k) (am_cc k) (am_mx k) (am_rt k) ∈ wsL_law := am_conj_all (P := fun k => Jvm.Cond.code (am_y k) (am_cc k) (am_mx k) (am_rt k) ∈ wsL_law) 213 ⟨⟨⟨⟨⟨⟨⟨⟨⟨⟨⟨⟨⟨⟨⟨⟨⟨⟨⟨⟨⟨⟨⟨⟨⟨⟨⟨⟨⟨⟨⟨⟨⟨⟨⟨⟨⟨⟨⟨⟨⟨⟨⟨⟨⟨⟨⟨⟨⟨⟨⟨⟨⟨⟨⟨⟨⟨⟨⟨⟨⟨⟨⟨⟨⟨⟨⟨⟨⟨⟨⟨⟨⟨⟨⟨⟨⟨⟨⟨⟨⟨⟨⟨⟨⟨⟨⟨⟨⟨⟨⟨⟨⟨⟨⟨⟨⟨⟨⟨⟨⟨⟨⟨⟨⟨⟨⟨⟨⟨⟨⟨⟨⟨⟨⟨⟨⟨⟨⟨⟨⟨⟨⟨⟨⟨⟨⟨⟨⟨⟨⟨⟨⟨⟨⟨⟨⟨⟨⟨⟨⟨⟨⟨⟨⟨⟨⟨⟨⟨⟨⟨⟨⟨⟨⟨⟨⟨⟨⟨⟨⟨⟨⟨⟨⟨⟨⟨⟨⟨⟨⟨⟨⟨⟨⟨⟨⟨⟨⟨⟨⟨⟨⟨⟨⟨⟨⟨⟨⟨⟨⟨⟨⟨⟨⟨⟨⟨⟨⟨⟨⟨⟨⟨⟨⟨⟨⟨⟨⟨⟨⟨⟨⟨trivial, am_wc0⟩, am_wc1⟩, am_wc2⟩, am_wc3⟩, am_wc4⟩, am_wc5⟩, am_wc6⟩, am_wc7⟩, am_wc8⟩, am_wc9⟩, am_wc10⟩, am_wc11⟩, am_wc12⟩, am_wc13⟩, am_wc14⟩, am_wc15⟩, am_wc16⟩, am_wc17⟩, am_wc18⟩, am_wc19⟩, am_wc20⟩, am_wc21⟩, am_wc22⟩, am_wc23⟩, am_wc24⟩, am_wc25⟩, am_wc26⟩, am_wc27⟩, am_wc28⟩, am_wc29⟩, am_wc30⟩, am_wc31⟩, am_wc32⟩, am_wc33⟩, am_wc34⟩, am_wc35⟩, am_wc36⟩, am_wc37⟩, am_wc38⟩, am_wc39⟩, am_wc40⟩, am_wc41⟩, am_wc42⟩, am_wc43⟩, am_wc44⟩, am_wc45⟩, am_wc46⟩, am_wc47⟩, am_wc48⟩, am_wc49⟩, am_wc50⟩, am_wc51⟩, am_wc52⟩, am_wc53⟩, am_wc54⟩, am_wc55⟩, am_wc56⟩, am_wc57⟩, am_wc58⟩, am_wc59⟩, am_wc60⟩, am_wc61⟩, am_wc62⟩, am_wc63⟩, am_wc64⟩, am_wc65⟩, am_wc66⟩, am_wc67⟩, am_wc68⟩, am_wc69⟩, am_wc70⟩, am_wc71⟩, am_wc72⟩, am_wc73⟩, am_wc74⟩, am_wc75⟩, am_wc76⟩, am_wc77⟩, am_wc78⟩, am_wc79⟩, am_wc80⟩, am_wc81⟩, am_wc82⟩, am_wc83⟩, am_wc84⟩, am_wc85⟩, am_wc86⟩, am_wc87⟩, am_wc88⟩, am_wc89⟩, am_wc90⟩, am_wc91⟩, am_wc92⟩, am_wc93⟩, am_wc94⟩, am_wc95⟩, am_wc96⟩, am_wc97⟩, am_wc98⟩, am_wc99⟩, am_wc100⟩, am_wc101⟩, am_wc102⟩, am_wc103⟩, am_wc104⟩, am_wc105⟩, am_wc106⟩, am_wc107⟩, am_wc108⟩, am_wc109⟩, am_wc110⟩, am_wc111⟩, am_wc112⟩, am_wc113⟩, am_wc114⟩, am_wc115⟩, am_wc116⟩, am_wc117⟩, am_wc118⟩, am_wc119⟩, am_wc120⟩, am_wc121⟩, am_wc122⟩, am_wc123⟩, am_wc124⟩, am_wc125⟩, am_wc126⟩, am_wc127⟩, am_wc128⟩, am_wc129⟩, am_wc130⟩, am_wc131⟩, am_wc132⟩, am_wc133⟩, am_wc134⟩, am_wc135⟩, am_wc136⟩, am_wc137⟩, am_wc138⟩, am_wc139⟩, am_wc140⟩, am_wc141⟩, am_wc142⟩, am_wc143⟩, am_wc144⟩, am_wc145⟩, am_wc146⟩, am_wc147⟩, am_wc148⟩, am_wc149⟩, am_wc150⟩, am_wc151⟩, am_wc152⟩, am_wc153⟩, am_wc154⟩, am_wc155⟩, am_wc156⟩, am_wc157⟩, am_wc158⟩, am_wc159⟩, am_wc160⟩, am_wc161⟩, am_wc162⟩, am_wc163⟩, am_wc164⟩, am_wc165⟩, am_wc166⟩, am_wc167⟩, am_wc168⟩, am_wc169⟩, am_wc170⟩, am_wc171⟩, am_wc172⟩, am_wc173⟩, am_wc174⟩, am_wc175⟩, am_wc176⟩, am_wc177⟩, am_wc178⟩, am_wc179⟩, am_wc180⟩, am_wc181⟩, am_wc182⟩, am_wc183⟩, am_wc184⟩, am_wc185⟩, am_wc186⟩, am_wc187⟩, am_wc188⟩, am_wc189⟩, am_wc190⟩, am_wc191⟩, am_wc192⟩, am_wc193⟩, am_wc194⟩, am_wc195⟩, am_wc196⟩, am_wc197⟩, am_wc198⟩, am_wc199⟩, am_wc200⟩, am_wc201⟩, am_wc202⟩, am_wc203⟩, am_wc204⟩, am_wc205⟩, am_wc206⟩, am_wc207⟩, am_wc208⟩, am_wc209⟩, am_wc210⟩, am_wc211⟩, am_wc212⟩
theorem am_w_min : Jvm.Cond.static Lib.Math.min.name ∈ wsL_law ∧ Jvm.Cond.code Lib.Math.min.name Lib.Math.min.code 2 (some .int) ∈ wsL_law ∧ Jvm.Cond.initialized "java/lang/Math" ∈ wsL_law := ⟨am_rin6 _ (List.mem_of_getElem? (i := 18) rfl), am_rin6 _ (List.mem_of_getElem? (i := 20) rfl), am_rin6 _ (List.mem_of_getElem? (i := 19) rfl)⟩
theorem am_w_max : Jvm.Cond.static Lib.Math.max.name ∈ wsL_law ∧ Jvm.Cond.code Lib.Math.max.name Lib.Math.max.code 2 (some .int) ∈ wsL_law ∧ Jvm.Cond.initialized "java/lang/Math" ∈ wsL_law := ⟨am_rin6 _ (List.mem_of_getElem? (i := 22) rfl), am_rin6 _ (List.mem_of_getElem? (i := 23) rfl), am_rin6 _ (List.mem_of_getElem? (i := 19) rfl)⟩
theorem am_w_abs : Jvm.Cond.static Lib.Math.abs.name ∈ wsL_law ∧ Jvm.Cond.code Lib.Math.abs.name Lib.Math.abs.code 1 (some .int) ∈ wsL_law ∧ Jvm.Cond.initialized "java/lang/Math" ∈ wsL_law := ⟨am_rin9 _ (List.mem_of_getElem? (i := 7) rfl), am_rin9 _ (List.mem_of_getElem? (i := 8) rfl), am_rin6 _ (List.mem_of_getElem? (i := 19) rfl)⟩
set_option maxRecDepth 100000 in
theorem am_w_stat : ∀ k, k < 213 → wsL_law[am_p2.getD k 0]? = some (if am_stat k = true then .static (am_y k) else .instanceMethod (am_y k)) := by decide +kernel
set_option maxRecDepth 100000 in
theorem am_w_sel : ∀ k, k < 213 → am_stat k = false → wsL_law[am_p3.getD k 0]? = some (.selects (am_cn (am_own k)) (am_y k) (am_y k)) := by decide +kernel
set_option maxRecDepth 100000 in
theorem am_w_ini : ∀ k, k < 213 → wsL_law[am_p4.getD k 0]? = some (.initialized (am_y k).cls) := by decide +kernel
theorem am_w_nat : wsL_law[am_pnat]? = some (.native arraycopyName) ∧ wsL_law[am_pstat]? = some (.static arraycopyName) ∧ wsL_law[am_pini]? = some (.initialized "java/lang/System") := by decide +kernel
set_option maxRecDepth 100000 in
theorem am_w_y : ∀ k, k < 213 → (am_y k).cls = am_cn (am_own k) ∧ Jvm.plainName (am_y k).cls = true ∧ ((am_y k).cls ≠ "java/lang/invoke/MethodHandle" ∧ (am_y k).cls ≠ "java/lang/invoke/VarHandle" ∧ (parseMethodDescriptor (am_y k).desc).map (fun d => d.parameters.length) = some (if am_stat k = true then am_na k else am_na k - 1)) := by decide +kernel
theorem am_w_na : ∀ k, k < 213 → (if am_stat k = true then 0 else 1) ≤ am_na k ∧ am_na k ≤ am_mx k := by decide +kernel
end
section
/-! ===== the check itself: every block is the code that stands there ===== -/
set_option maxRecDepth 100000 in
theorem am_okm_0 : (List.range' 0 12).all am_okm = true := by decide +kernel
set_option maxRecDepth 100000 in
theorem am_okm_12 : (List.range' 12 12).all am_okm = true := by decide +kernel
set_option maxRecDepth 100000 in
theorem am_okm_24 : (List.range' 24 12).all am_okm = true := by decide +kernel
set_option maxRecDepth 100000 in
theorem am_okm_36 : (List.range' 36 12).all am_okm = true := by decide +kernel
set_option maxRecDepth 100000 in
theorem am_okm_48 : (List.range' 48 12).all am_okm = true := by decide +kernel
set_option maxRecDepth 100000 in
theorem am_okm_60 : (List.range' 60 12).all am_okm = true := by decide +kernel
set_option maxRecDepth 100000 in
theorem am_okm_72 : (List.range' 72 12).all am_okm = true := by decide +kernel
set_option maxRecDepth 100000 in
theorem am_okm_84 : (List.range' 84 12).all am_okm = true := by decide +kernel
end
section
set_option maxRecDepth 100000 in
theorem am_okm_96 : (List.range' 96 12).all am_okm = true := by decide +kernel
set_option maxRecDepth 100000 in
theorem am_okm_108 : (List.range' 108 12).all am_okm = true := by decide +kernel
set_option maxRecDepth 100000 in
theorem am_okm_120 : (List.range' 120 12).all am_okm = true := by decide +kernel
set_option maxRecDepth 100000 in
theorem am_okm_132 : (List.range' 132 12).all am_okm = true := by decide +kernel
set_option maxRecDepth 100000 in
theorem am_okm_144 : (List.range' 144 12).all am_okm = true := by decide +kernel
set_option maxRecDepth 100000 in
theorem am_okm_156 : (List.range' 156 12).all am_okm = true := by decide +kernel
set_option maxRecDepth 100000 in
theorem am_okm_168 : (List.range' 168 12).all am_okm = true := by decide +kernel
set_option maxRecDepth 100000 in
theorem am_okm_180 : (List.range' 180 12).all am_okm = true := by decide +kernel
set_option maxRecDepth 100000 in
theorem am_okm_192 : (List.range' 192 12).all am_okm = true := by decide +kernel
set_option maxRecDepth 100000 in
theorem am_okm_204 : (List.range' 204 9).all am_okm = true := by decide +kernel
end
section
set_option maxRecDepth 100000 in
theorem am_okl_0 : ((am_t213.drop 0).take 10).all (fun q => am_at 213 q.1 q.2) = true := by decide +kernel
set_option maxRecDepth 100000 in
theorem am_okl_10 : ((am_t213.drop 10).take 10).all (fun q => am_at 213 q.1 q.2) = true := by decide +kernel
set_option maxRecDepth 100000 in
theorem am_okl_20 : ((am_t213.drop 20).take 10).all (fun q => am_at 213 q.1 q.2) = true := by decide +kernel
set_option maxRecDepth 100000 in
theorem am_okl_30 : ((am_t213.drop 30).take 10).all (fun q => am_at 213 q.1 q.2) = true := by decide +kernel
set_option maxRecDepth 100000 in
theorem am_okl_40 : ((am_t213.drop 40).take 10).all (fun q => am_at 213 q.1 q.2) = true := by decide +kernel
theorem am_okl_len : am_t213.length = 46 := by decide +kernel
theorem am_okl_r {a b i : Nat} {q : Nat × List Instr} (h : ((am_t213.drop a).take b).all (fun q => am_at 213 q.1 q.2) = true) (h1 : a ≤ i) (h2 : i < a + b) (hi : am_t213[i]? = some q) : am_at 213 q.1 q.2 = true := by
  refine List.all_eq_true.mp h q ?_
  refine List.mem_of_getElem? (i := i - a) ?_
  rw [List.getElem?_take_of_lt (by omega), List.getElem?_drop, show a + (i - a) = i by omega]
  exact hi
theorem am_okm_law : am_okm 213 = true := by
  refine List.all_eq_true.mpr fun q hq => ?_
  have hq : q ∈ am_t213 := hq
  obtain ⟨i, hi⟩ := List.getElem?_of_mem hq
  have hl : i < 46 := by have := (List.getElem?_eq_some_iff.mp hi).1; rw [am_okl_len] at this; exact this
  by_cases h0 : i < 10
  · exact am_okl_r am_okl_0 (by omega) (by omega) hi
  by_cases h10 : i < 20
  · exact am_okl_r am_okl_10 (by omega) (by omega) hi
  by_cases h20 : i < 30
  · exact am_okl_r am_okl_20 (by omega) (by omega) hi
  by_cases h30 : i < 40
  · exact am_okl_r am_okl_30 (by omega) (by omega) hi
  exact am_okl_r am_okl_40 (by omega) (by omega) hi
theorem am_okm_r {a n k : Nat} (h : (List.range' a n).all am_okm = true) (h1 : a ≤ k) (h2 : k < a + n) : am_okm k = true := List.all_eq_true.mp h k (List.mem_range'_1.mpr ⟨h1, h2⟩)
theorem am_okm_all {k : Nat} (hk : k < 214) : am_okm k = true := by
  by_cases h0 : k < 12
  · exact am_okm_r am_okm_0 (by omega) (by omega)
  by_cases h12 : k < 24
  · exact am_okm_r am_okm_12 (by omega) (by omega)
  by_cases h24 : k < 36
  · exact am_okm_r am_okm_24 (by omega) (by omega)
  by_cases h36 : k < 48
  · exact am_okm_r am_okm_36 (by omega) (by omega)
  by_cases h48 : k < 60
  · exact am_okm_r am_okm_48 (by omega) (by omega)
  by_cases h60 : k < 72
  · exact am_okm_r am_okm_60 (by omega) (by omega)
  by_cases h72 : k < 84
  · exact am_okm_r am_okm_72 (by omega) (by omega)
  by_cases h84 : k < 96
  · exact am_okm_r am_okm_84 (by omega) (by omega)
  by_cases h96 : k < 108
  · exact am_okm_r am_okm_96 (by omega) (by omega)
  by_cases h108 : k < 120
  · exact am_okm_r am_okm_108 (by omega) (by omega)
  by_cases h120 : k < 132
  · exact am_okm_r am_okm_120 (by omega) (by omega)
  by_cases h132 : k < 144
  · exact am_okm_r am_okm_132 (by omega) (by omega)
  by_cases h144 : k < 156
  · exact am_okm_r am_okm_144 (by omega) (by omega)
  by_cases h156 : k < 168
  · exact am_okm_r am_okm_156 (by omega) (by omega)
  by_cases h168 : k < 180
  · exact am_okm_r am_okm_168 (by omega) (by omega)
  by_cases h180 : k < 192
  · exact am_okm_r am_okm_180 (by omega) (by omega)
  by_cases h192 : k < 204
  · exact am_okm_r am_okm_192 (by omega) (by omega)
  by_cases h204 : k < 213
  · exact am_okm_r am_okm_204 (by omega) (by omega)
  rw [show k = 213 by omega]
  exact am_okm_law
end
section
/-! ===== the small machine and the machine: worlds, values, what stays ===== -/
def am_flds (a : Nat → Nat) (g : Nat → Int32) : Nat → List Nat → List Value
  | _, [] => []
  | i, f :: fs => (match f with
    | 0 => Value.int (g i)
    | j + 1 => Value.ref (a j)) :: am_flds a g (i + 1) fs
def am_cell (a : Nat → Nat) (cI cR cS : ClassId) (G : GG) (k : Nat) : va_E := match am_sh k with
  | [0, n] => .inl (cI, n, .inl (G k))
  | 1 :: ci :: fs => .inr (ci, am_flds a (G k) 0 fs)
  | 2 :: c :: rs => .inl (if c = 0 then cR else cS, rs.length, .inr (.inr (.inr (.inr (fun i => (rs[i]?).map a)))))
  | _ => .inl (cI, 0, .inl (G k))
def am_W (a : Nat → Nat) (cI cR cS : ClassId) (G : GG) : va_W := (List.range 72).map fun k => (a k, am_cell a cI cR cS G k)
def am_v (a : Nat → Nat) (sio : Value) (v : Value) : Value := match v with
  | .ref k => if k = 500 then sio else .ref (a k)
  | v => v
def am_ty (cI cR cS : ClassId) : List (ClassId × FieldType) := [(cI, .int), (cR, .object RX0), (cS, .object "java/lang/String")]
theorem am_v_ref {a : Nat → Nat} {sio : Value} {k : Nat} (h : k < 500) : am_v a sio (.ref k) = .ref (a k) := by
  have hk : ¬ k = 500 := by omega
  exact if_neg hk
theorem am_v_cat {a : Nat → Nat} {sio : Value} (hs : sio.category = 1) (v : Value) : (am_v a sio v).category = v.category := by
  cases v with
  | ref k =>
    show (if k = 500 then sio else .ref (a k)).category = 1
    by_cases h : k = 500
    · rw [if_pos h]; exact hs
    · rw [if_neg h]; rfl
  | _ => rfl
theorem am_sh_lt {k : Nat} (h : am_sh k ≠ []) : k < 72 := by
  rcases Nat.lt_or_ge k 72 with q | q
  · exact q
  · exact absurd (by unfold am_sh; rw [List.getD_eq_getElem?_getD, List.getElem?_eq_none (by show 72 ≤ k; exact q)]; rfl) h
theorem am_W_get {a : Nat → Nat} {cI cR cS : ClassId} {G : GG} {k : Nat} (hk : k < 72) : (am_W a cI cR cS G)[k]? = some (a k, am_cell a cI cR cS G k) := by simp [am_W, hk]
theorem am_W_len {a : Nat → Nat} {cI cR cS : ClassId} {G : GG} : (am_W a cI cR cS G).length = 72 := by simp [am_W]
theorem am_W_set {a : Nat → Nat} {cI cR cS : ClassId} {G : GG} {k : Nat} {f : Nat → Int32} {e : va_E} (hk : k < 72) (he : am_cell a cI cR cS (gset G k f) k = e) : (am_W a cI cR cS G).set k (a k, e) = am_W a cI cR cS (gset G k f) := by
  apply List.ext_getElem?
  intro j
  by_cases hj : j = k
  · subst hj
    rw [List.getElem?_set_self (by rw [am_W_len]; exact hk), am_W_get hk, he]
  · rw [List.getElem?_set_ne (Ne.symm hj)]
    by_cases hl : j < 72
    · rw [am_W_get hl, am_W_get hl]
      unfold am_cell
      rw [show gset G k f j = G j from if_neg hj]
    · simp [am_W, hl]
theorem am_flds_get (a : Nat → Nat) (g : Nat → Int32) : ∀ (fs : List Nat) (i n : Nat), (am_flds a g i fs)[n]? = (fs[n]?).map (fun f => match f with
    | 0 => Value.int (g (i + n))
    | j + 1 => Value.ref (a j))
  | [], i, n => by simp [am_flds]
  | f :: fs, i, 0 => by simp [am_flds]
  | f :: fs, i, n + 1 => by
    simp only [am_flds, List.getElem?_cons_succ]
    rw [am_flds_get a g fs (i + 1) n, show i + 1 + n = i + (n + 1) by omega]
theorem am_flds_len (a : Nat → Nat) (g : Nat → Int32) : ∀ (fs : List Nat) (i : Nat), (am_flds a g i fs).length = fs.length
  | [], i => rfl
  | f :: fs, i => by simp [am_flds, am_flds_len a g fs (i + 1)]
theorem am_flds_far (a : Nat → Nat) (g : Nat → Int32) (p : Nat) (x : Int32) : ∀ (fs : List Nat) (i : Nat), p < i → am_flds a (upd g p x) i fs = am_flds a g i fs
  | [], i, _ => rfl
  | f :: fs, i, h => by
    simp only [am_flds]
    rw [am_flds_far a g p x fs (i + 1) (by omega), show upd g p x i = g i from if_neg (by omega)]
theorem am_flds_set (a : Nat → Nat) (g : Nat → Int32) (x : Int32) : ∀ (fs : List Nat) (i n : Nat), fs[n]? = some 0 → (am_flds a g i fs).set n (.int x) = am_flds a (upd g (i + n) x) i fs
  | [], i, n, h => by simp at h
  | f :: fs, i, 0, h => by
    simp only [List.getElem?_cons_zero, Option.some.injEq] at h
    subst h
    simp only [am_flds, List.set_cons_zero, Nat.add_zero]
    rw [am_flds_far a g i x fs (i + 1) (by omega), show upd g i x i = x from if_pos rfl]
  | f :: fs, i, n + 1, h => by
    simp only [List.getElem?_cons_succ] at h
    simp only [am_flds, List.set_cons_succ]
    rw [am_flds_set a g x fs (i + 1) n h, show i + 1 + n = i + (n + 1) by omega, show upd g (i + (n + 1)) x i = g i from if_neg (by omega)]
theorem am_W_D {a : Nat → Nat} {cI cR cS : ClassId} {G : GG} {A : Nat → Prop} (h : (∀ i j, i < 72 → j < 72 → a i = a j → i = j) ∧ ∀ k, k < 72 → A (a k)) : va_D A (am_W a cI cR cS G) := by
  have key : ∀ (i : Nat) (p : Nat × va_E), (am_W a cI cR cS G)[i]? = some p → i < 72 ∧ p.1 = a i := by
    intro i p hp
    have hi : i < 72 := by rw [← am_W_len (a := a) (cI := cI) (cR := cR) (cS := cS) (G := G)]; exact (List.getElem?_eq_some_iff.mp hp).1
    rw [am_W_get hi] at hp
    cases hp
    exact ⟨hi, rfl⟩
  refine ⟨fun i j p q hi hj hpq => ?_, fun k q hk => ?_⟩
  · obtain ⟨a1, a2⟩ := key i p hi
    obtain ⟨b1, b2⟩ := key j q hj
    exact h.1 i j a1 b1 (by rw [← a2, ← b2, hpq])
  · obtain ⟨a1, a2⟩ := key k q hk
    rw [a2]
    exact h.2 k a1
/-- what stays as it was at the start -/
def am_E (a : Nat → Nat) (sio : Value) (X : AmX) (A : Nat → Prop) (U : State) (H : Heap) : Prop :=
  tt_N U ∧ tt_R (fun j => a (100 + j)) U ∧ va_Z RX4 "KIND_ABOVE" "[I" (.ref (a 300)) A U H ∧ va_T .int (a 300) 7 (fun k => .int (tt_above k)) A U H ∧ va_Z "java/lang/String" "COMPACT_STRINGS" "Z" (.int 1) A U H ∧ va_Z "jdk/internal/util/Preconditions" "SIOOBE_FORMATTER" "Ljava/util/function/BiFunction;" sio A U H ∧ vk_S 11 tt_len tt_byt (fun j => a (100 + j)) (fun j => a (200 + j)) A U H ∧ va_T .int (a 400) X.1 (fun j => .int (X.2 j)) A U H
theorem am_E.warm {a : Nat → Nat} {sio : Value} {X : AmX} {A : Nat → Prop} {s U : State} {H : Heap} (hW : s.WarmedH U.vm) (h : am_E a sio X A s H) : am_E a sio X A U H :=
  ⟨fun q hq => va_Nw.warmM hW (h.1 q hq), fun q hq => vk_R.warm hW (h.2.1 q hq), h.2.2.1.moved hW.alike, h.2.2.2.1.moved hW.alike, h.2.2.2.2.1.moved hW.alike, h.2.2.2.2.2.1.moved hW.alike, h.2.2.2.2.2.2.1.moved hW.alike, h.2.2.2.2.2.2.2.moved hW.alike⟩
theorem am_E.same {a : Nat → Nat} {sio : Value} {X : AmX} {A : Nat → Prop} {u U : State} {H : Heap} (hv : U.vm = u.vm) (h : am_E a sio X A u H) : am_E a sio X A U H :=
  have hA : u.vm.Alike U.vm := by rw [hv]; exact Vm.Alike.refl u.vm
  ⟨fun q hq => va_Nw.same rfl hv.symm (h.1 q hq), fun q hq => vk_R.same hv (h.2.1 q hq), h.2.2.1.moved hA, h.2.2.2.1.moved hA, h.2.2.2.2.1.moved hA, h.2.2.2.2.2.1.moved hA, h.2.2.2.2.2.2.1.moved hA, h.2.2.2.2.2.2.2.moved hA⟩
theorem am_E.kept {a : Nat → Nat} {sio : Value} {X : AmX} {A : Nat → Prop} {U : State} {H0 H : Heap} {locs : List Loc} (h : am_E a sio X A U H0) (hS : va_S A H0 H locs) : am_E a sio X A U H :=
  ⟨h.1, h.2.1, h.2.2.1.kept hS.2.1, h.2.2.2.1.kept hS.2.1, h.2.2.2.2.1.kept hS.2.1, h.2.2.2.2.2.1.kept hS.2.1, h.2.2.2.2.2.2.1.kept hS.2.1, h.2.2.2.2.2.2.2.kept hS.2.1⟩
theorem am_E.narrow {a : Nat → Nat} {sio : Value} {X : AmX} {A B : Nat → Prop} {U : State} {H : Heap} (h : am_E a sio X A U H) (hAB : ∀ q, B q → A q) : am_E a sio X B U H :=
  ⟨h.1, h.2.1, h.2.2.1.narrow hAB, h.2.2.2.1.narrow hAB, h.2.2.2.2.1.narrow hAB, h.2.2.2.2.2.1.narrow hAB, h.2.2.2.2.2.2.1.narrow hAB, h.2.2.2.2.2.2.2.narrow hAB⟩
/-- locals -/
def am_lvo (mv : Value → Value) : Nat → LV → List (Nat × Value)
  | _, [] => []
  | i, none :: r => am_lvo mv (i + 1) r
  | i, some v :: r => (i, mv v) :: am_lvo mv (i + 1) r
theorem am_lvo_mem (mv : Value → Value) : ∀ (lv : LV) (i : Nat) (q : Nat × Value), q ∈ am_lvo mv i lv ↔ ∃ (j : Nat) (v : Value), lv[j]? = some (some v) ∧ q = (i + j, mv v)
  | [], i, q => by simp [am_lvo]
  | none :: r, i, q => by
    simp only [am_lvo]
    rw [am_lvo_mem mv r (i + 1) q]
    constructor
    · rintro ⟨j, v, h1, h2⟩
      exact ⟨j + 1, v, h1, by rw [h2, show i + 1 + j = i + (j + 1) by omega]⟩
    · rintro ⟨j, v, h1, h2⟩
      cases j with
      | zero => simp at h1
      | succ j => exact ⟨j, v, h1, by rw [h2, show i + 1 + j = i + (j + 1) by omega]⟩
  | some w :: r, i, q => by
    simp only [am_lvo, List.mem_cons]
    rw [am_lvo_mem mv r (i + 1) q]
    constructor
    · rintro (h | ⟨j, v, h1, h2⟩)
      · exact ⟨0, w, rfl, h⟩
      · exact ⟨j + 1, v, h1, by rw [h2, show i + 1 + j = i + (j + 1) by omega]⟩
    · rintro ⟨j, v, h1, h2⟩
      cases j with
      | zero =>
        simp only [List.getElem?_cons_zero, Option.some.injEq] at h1
        subst h1
        exact Or.inl h2
      | succ j => exact Or.inr ⟨j, v, h1, by rw [h2, show i + 1 + j = i + (j + 1) by omega]⟩
theorem am_lv_at {mv : Value → Value} {lv : LV} {ls : Array Slot} {nL j : Nat} {v : Value} (h : lv_has ls nL (am_lvo mv 0 lv)) (hj : lv[j]? = some (some v)) : ls[j]? = some (.val (mv v)) := by
  have := h.2.2 (j, mv v) ((am_lvo_mem mv lv 0 _).mpr ⟨j, v, hj, by simp⟩)
  exact this
theorem am_lv_lt {mv : Value → Value} {lv : LV} {ls : Array Slot} {nL j : Nat} (h : lv_has ls nL (am_lvo mv 0 lv)) (hL : lv.length = nL) (hj : j < lv.length) : j < nL := by omega
theorem am_ok1_spec {lv : LV} {j : Nat} (h : am_ok1 lv j = true) : j < lv.length ∧ ∀ i v, i + 1 = j → lv[i]? = some (some v) → v.category = 1 := by
  cases j with
  | zero => exact ⟨by simpa [am_ok1] using h, fun i v hi => by omega⟩
  | succ j =>
    simp only [am_ok1, Bool.and_eq_true, decide_eq_true_eq] at h
    refine ⟨h.1, fun i v hi hv => ?_⟩
    have : i = j := by omega
    subst this
    have h2 := h.2
    rw [hv] at h2
    simpa [am_nl] using h2
theorem am_lv_set {mv : Value → Value} {lv : LV} {ls : Array Slot} {nL j : Nat} {v : Value} (hc : ∀ v, (mv v).category = v.category) (ho : am_ok1 lv j = true) (h : lv_has ls nL ((j, mv v) :: (am_lvo mv 0 lv).filter (fun q => !(q.1 == j) && !(q.1 + 1 == j && q.2.category == 2)))) : lv_has ls nL (am_lvo mv 0 (lv.set j (some v))) := by
  obtain ⟨hlt, hpre⟩ := am_ok1_spec ho
  refine ⟨h.1, h.2.1, fun q hq => h.2.2 q ?_⟩
  obtain ⟨i, w, h1, h2⟩ := (am_lvo_mem mv _ 0 q).mp hq
  rw [Nat.zero_add] at h2
  by_cases hi : i = j
  · subst hi
    rw [List.getElem?_set_self hlt] at h1
    cases h1
    rw [h2]
    exact List.mem_cons_self
  · rw [List.getElem?_set_ne (Ne.symm hi)] at h1
    refine List.mem_cons_of_mem _ (List.mem_filter.mpr ⟨(am_lvo_mem mv _ 0 q).mpr ⟨i, w, h1, by rw [h2, Nat.zero_add]⟩, ?_⟩)
    subst h2
    simp only [Bool.and_eq_true, Bool.not_eq_true', beq_eq_false_iff_ne, ne_eq, Bool.and_eq_false_iff]
    refine ⟨hi, ?_⟩
    by_cases h3 : i + 1 = j
    · right
      rw [hc, hpre i w h3 h1]
      decide
    · exact Or.inl h3
theorem am_lv_set2 {mv : Value → Value} {lv : LV} {ls : Array Slot} {nL j : Nat} {v : Value} (hc : ∀ v, (mv v).category = v.category) (ho : am_ok2 lv j = true) (h : lv_has ls nL ((j, mv v) :: (am_lvo mv 0 lv).filter (fun q => !(q.1 == j) && (!(q.1 == j + 1) && !(q.1 + 1 == j && q.2.category == 2))))) : lv_has ls nL (am_lvo mv 0 ((lv.set j (some v)).set (j + 1) none)) := by
  simp only [am_ok2, Bool.and_eq_true, decide_eq_true_eq] at ho
  obtain ⟨hlt, hpre⟩ := am_ok1_spec ho.2
  refine ⟨h.1, h.2.1, fun q hq => h.2.2 q ?_⟩
  obtain ⟨i, w, h1, h2⟩ := (am_lvo_mem mv _ 0 q).mp hq
  rw [Nat.zero_add] at h2
  by_cases hi1 : i = j + 1
  · subst hi1
    rw [List.getElem?_set_self (by simpa using ho.1)] at h1
    cases h1
  rw [List.getElem?_set_ne (Ne.symm hi1)] at h1
  by_cases hi : i = j
  · subst hi
    rw [List.getElem?_set_self hlt] at h1
    cases h1
    rw [h2]
    exact List.mem_cons_self
  · rw [List.getElem?_set_ne (Ne.symm hi)] at h1
    refine List.mem_cons_of_mem _ (List.mem_filter.mpr ⟨(am_lvo_mem mv _ 0 q).mpr ⟨i, w, h1, by rw [h2, Nat.zero_add]⟩, ?_⟩)
    subst h2
    simp only [Bool.and_eq_true, Bool.not_eq_true', beq_eq_false_iff_ne, ne_eq, Bool.and_eq_false_iff]
    refine ⟨hi, hi1, ?_⟩
    by_cases h3 : i + 1 = j
    · right
      rw [hc, hpre i w h3 h1]
      decide
    · exact Or.inl h3
/-- what a walk needs, all in one -/
def am_C (a : Nat → Nat) (sio : Value) (X : AmX) (cI cR cS : ClassId) (D : va_G) (k : Nat) (p : Program) (R : Room) (s : State) (m : MethodId) (args : Array Value) (c : Code) (A : Nat → Prop) (cells slots : Nat) : Prop :=
  p.tables.exec = Jvm.exec ∧ c.code = am_cc k ∧ c.maxLocals = am_mx k ∧ s.vm.findClass (am_cn (am_own k)) = some m.cls ∧ (∀ w ∈ wsL_law, w.before args s = true) ∧ va_K D vwCl (am_ty cI cR cS) s ∧ am_E a sio X A s s.heap ∧ (∀ q : Nat, s.heap.size ≤ q → A q) ∧ am_fr k ≤ R.frames ∧ am_lo k ≤ R.locals ∧ cells ≤ R.cells ∧ slots ≤ R.slots ∧ ((∀ i j, i < 72 → j < 72 → a i = a j → i = j) ∧ ∀ k, k < 72 → A (a k)) ∧ sio.category = 1
def am_Wt (Wf : Heap → List Loc → JFrame → Prop) (D : va_G) (a : Nat → Nat) (sio : Value) (cI cR cS : ClassId) (m : MethodId) (nL : Nat) (A : Nat → Prop) (H0 : Heap) (pc : Nat) (lv : LV) (st : List Value) (G : GG) : Prop := lv.length = nL → ∀ (ls : Array Slot) (H : Heap) (locs : List Loc), va_P D vwCl (am_W a cI cR cS G) H → va_S A H0 H locs → lv_has ls nL (am_lvo (am_v a sio) 0 lv) → Wf H locs (F0 m pc ls (st.map (am_v a sio)))
theorem am_word {args : Array Value} {s : State} (h : ∀ w ∈ wsL_law, w.before args s = true) {i : Nat} {w : Jvm.Cond} (hi : wsL_law[i]? = some w) : w.before args s = true := h w (List.mem_of_getElem? hi)
theorem am_uws (ci : Nat) (hc : ci < 6) : ∀ w ∈ u_ws (am_cn ci) (am_T ci) ((vwCl[ci]?).map (fun q => q.2.2) |>.getD 0), w ∈ wsL_law := by
  rcases (by omega : ci = 0 ∨ ci = 1 ∨ ci = 2 ∨ ci = 3 ∨ ci = 4 ∨ ci = 5) with rfl | rfl | rfl | rfl | rfl | rfl
  · exact fun _ h => List.mem_append_left _ (List.mem_append_left _ (List.mem_append_right _ h))
  · exact fun _ h => List.mem_append_left _ (List.mem_append_right _ h)
  · exact fun _ h => List.mem_append_left _ (List.mem_append_left _ (List.mem_append_left _ (List.mem_append_right _ h)))
  · exact fun _ h => List.mem_append_left _ (List.mem_append_left _ (List.mem_append_left _ (List.mem_append_left _ (List.mem_append_right _ h))))
  · exact fun _ h => List.mem_append_left _ (List.mem_append_left _ (List.mem_append_left _ (List.mem_append_left _ (List.mem_append_left _ (List.mem_append_left _ (List.mem_append_right _ h))))))
  · exact fun _ h => List.mem_append_left _ (List.mem_append_left _ (List.mem_append_left _ (List.mem_append_left _ (List.mem_append_left _ (List.mem_append_right _ h)))))
end
section
/-! ===== one row an instruction: the small machine's step is the machine's: printed by program ===== -/
theorem am_cst_v (n : Int) (hn : -2 ^ 31 ≤ n) (hn2 : n < 2 ^ 31) : ∀ {X : AmX} {k : Nat} {r : List Instr} {lv : LV} {st : List Value} {G : GG}, am_st X k (am_cst n) r lv st G = am_push r lv st G (.int (Int32.ofInt n)) := by
  intro X k r lv st G
  cases n with
  | ofNat n => rfl
  | negSucc n => rfl
theorem am_i8 {n : Int} (h1 : -128 ≤ n) (h2 : n < 128) : (Int8.ofInt n).toInt32 = Int32.ofInt n := by
  apply Int32.toInt_inj.mp
  rw [Int8.toInt_toInt32, Int8.toInt_ofInt_of_le (by omega) (by omega), Int32.toInt_ofInt_of_le (by omega) (by omega)]
theorem am_i16 {n : Int} (h1 : -32768 ≤ n) (h2 : n < 32768) : (Int16.ofInt n).toInt32 = Int32.ofInt n := by
  apply Int32.toInt_inj.mp
  rw [Int16.toInt_toInt32, Int16.toInt_ofInt_of_le (by omega) (by omega), Int32.toInt_ofInt_of_le (by omega) (by omega)]
section ASR
variable {p : Program} {l : Launch} {e : Env} {R : Room} {s : State} {m : MethodId} {args : Array Value} {below : List Frame} {meth : Method} {c : Code} {cells slots : Nat} {Q : State → Prop}
variable {a : Nat → Nat} {sio : Value} {X : AmX} {cI cR cS : ClassId} {D : va_G} {k : Nat} {A : Nat → Prop} {pc : Nat} {lv : LV} {st : List Value} {G : GG} {r : List Instr}
theorem as_iconst (C : am_C a sio X cI cR cS D k p R s m args c A cells slots) {n : Int} (hd : decode (am_cc k) pc = .ok (.iconst n, 1)) (kk : am_Wt (fun H locs g => W p l e R s m args below meth c H locs cells slots Q g) D a sio cI cR cS m (am_mx k) A s.heap (pc + 1) (lv) (.int (Int32.ofInt n) :: st) (G)) : am_Wt (fun H locs g => W p l e R s m args below meth c H locs cells slots Q g) D a sio cI cR cS m (am_mx k) A s.heap (pc) (lv) (st) (G) := by
  obtain ⟨hx, hb, hml, hown, hts, hK, hE, hA, hfr, hlo, hce, hsl, hap, hsio⟩ := C
  intro hL ls H locs hP hS hl
  exact lv_iconst hx hb hd rfl (kk hL ls H locs hP hS hl)
theorem as_bipush (C : am_C a sio X cI cR cS D k p R s m args c A cells slots) {n : Int} (hd : decode (am_cc k) pc = .ok (.bipush n, 2)) (kk : am_Wt (fun H locs g => W p l e R s m args below meth c H locs cells slots Q g) D a sio cI cR cS m (am_mx k) A s.heap (pc + 2) (lv) (.int (Int8.ofInt n).toInt32 :: st) (G)) : am_Wt (fun H locs g => W p l e R s m args below meth c H locs cells slots Q g) D a sio cI cR cS m (am_mx k) A s.heap (pc) (lv) (st) (G) := by
  obtain ⟨hx, hb, hml, hown, hts, hK, hE, hA, hfr, hlo, hce, hsl, hap, hsio⟩ := C
  intro hL ls H locs hP hS hl
  exact lv_bipush hx hb hd rfl (kk hL ls H locs hP hS hl)
theorem as_sipush (C : am_C a sio X cI cR cS D k p R s m args c A cells slots) {n : Int} (hd : decode (am_cc k) pc = .ok (.sipush n, 3)) (kk : am_Wt (fun H locs g => W p l e R s m args below meth c H locs cells slots Q g) D a sio cI cR cS m (am_mx k) A s.heap (pc + 3) (lv) (.int (Int16.ofInt n).toInt32 :: st) (G)) : am_Wt (fun H locs g => W p l e R s m args below meth c H locs cells slots Q g) D a sio cI cR cS m (am_mx k) A s.heap (pc) (lv) (st) (G) := by
  obtain ⟨hx, hb, hml, hown, hts, hK, hE, hA, hfr, hlo, hce, hsl, hap, hsio⟩ := C
  intro hL ls H locs hP hS hl
  exact lv_sipush hx hb hd rfl (kk hL ls H locs hP hS hl)
theorem as_lconst (C : am_C a sio X cI cR cS D k p R s m args c A cells slots) {n : Fin 2} (hd : decode (am_cc k) pc = .ok (.lconst n, 1)) (kk : am_Wt (fun H locs g => W p l e R s m args below meth c H locs cells slots Q g) D a sio cI cR cS m (am_mx k) A s.heap (pc + 1) (lv) (.long (Int64.ofNat n.val) :: st) (G)) : am_Wt (fun H locs g => W p l e R s m args below meth c H locs cells slots Q g) D a sio cI cR cS m (am_mx k) A s.heap (pc) (lv) (st) (G) := by
  obtain ⟨hx, hb, hml, hown, hts, hK, hE, hA, hfr, hlo, hce, hsl, hap, hsio⟩ := C
  intro hL ls H locs hP hS hl
  exact lv_lconst hx hb hd rfl (kk hL ls H locs hP hS hl)
theorem as_ldci (C : am_C a sio X cI cR cS D k p R s m args c A cells slots) {j : Nat} {n : Int} (hd : decode (am_cc k) pc = .ok (.ldc j, 2)) {i : Nat} (hc : wsL_law[i]? = some (.constant (am_cn (am_own k)) j (Int32.ofInt n))) (kk : am_Wt (fun H locs g => W p l e R s m args below meth c H locs cells slots Q g) D a sio cI cR cS m (am_mx k) A s.heap (pc + 2) (lv) (.int (Int32.ofInt n) :: st) (G)) : am_Wt (fun H locs g => W p l e R s m args below meth c H locs cells slots Q g) D a sio cI cR cS m (am_mx k) A s.heap (pc) (lv) (st) (G) := by
  obtain ⟨hx, hb, hml, hown, hts, hK, hE, hA, hfr, hlo, hce, hsl, hap, hsio⟩ := C
  intro hL ls H locs hP hS hl
  exact lv_ldc hx hb hown (am_word hts hc) hd (kk hL ls H locs hP hS hl)
theorem as_ldcwi (C : am_C a sio X cI cR cS D k p R s m args c A cells slots) {j : Nat} {n : Int} (hd : decode (am_cc k) pc = .ok (.ldc_w j, 3)) {i : Nat} (hc : wsL_law[i]? = some (.constant (am_cn (am_own k)) j (Int32.ofInt n))) (kk : am_Wt (fun H locs g => W p l e R s m args below meth c H locs cells slots Q g) D a sio cI cR cS m (am_mx k) A s.heap (pc + 3) (lv) (.int (Int32.ofInt n) :: st) (G)) : am_Wt (fun H locs g => W p l e R s m args below meth c H locs cells slots Q g) D a sio cI cR cS m (am_mx k) A s.heap (pc) (lv) (st) (G) := by
  obtain ⟨hx, hb, hml, hown, hts, hK, hE, hA, hfr, hlo, hce, hsl, hap, hsio⟩ := C
  intro hL ls H locs hP hS hl
  exact lv_ldcw hx hb hown (am_word hts hc) hd (kk hL ls H locs hP hS hl)
theorem as_ldcs (C : am_C a sio X cI cR cS D k p R s m args c A cells slots) {j q : Nat} {tx : String} (hd : decode (am_cc k) pc = .ok (.ldc j, 2)) {i : Nat} (hr : tt_refs[i]? = some (am_cn (am_own k), j, tx, q)) (hq0 : q < 11) (kk : am_Wt (fun H locs g => W p l e R s m args below meth c H locs cells slots Q g) D a sio cI cR cS m (am_mx k) A s.heap (pc + 2) (lv) (.ref (100 + q) :: st) (G)) : am_Wt (fun H locs g => W p l e R s m args below meth c H locs cells slots Q g) D a sio cI cR cS m (am_mx k) A s.heap (pc) (lv) (st) (G) := by
  obtain ⟨hx, hb, hml, hown, hts, hK, hE, hA, hfr, hlo, hce, hsl, hap, hsio⟩ := C
  intro hL ls H locs hP hS hl
  have hq : q < 11 := by omega
  have h1 : vk_R (am_cn (am_own k)) j tx (a (100 + q)) s := hE.2.1 (am_cn (am_own k), j, tx, q) (List.mem_of_getElem? hr)
  have kk := kk hL ls H locs hP hS hl
  rw [List.map_cons, am_v_ref (by omega)] at kk
  exact va_ldcS hx hb hown h1 hd kk
theorem as_ldcws (C : am_C a sio X cI cR cS D k p R s m args c A cells slots) {j q : Nat} {tx : String} (hd : decode (am_cc k) pc = .ok (.ldc_w j, 3)) {i : Nat} (hr : tt_refs[i]? = some (am_cn (am_own k), j, tx, q)) (hq0 : q < 11) (kk : am_Wt (fun H locs g => W p l e R s m args below meth c H locs cells slots Q g) D a sio cI cR cS m (am_mx k) A s.heap (pc + 3) (lv) (.ref (100 + q) :: st) (G)) : am_Wt (fun H locs g => W p l e R s m args below meth c H locs cells slots Q g) D a sio cI cR cS m (am_mx k) A s.heap (pc) (lv) (st) (G) := by
  obtain ⟨hx, hb, hml, hown, hts, hK, hE, hA, hfr, hlo, hce, hsl, hap, hsio⟩ := C
  intro hL ls H locs hP hS hl
  have hq : q < 11 := by omega
  have h1 : vk_R (am_cn (am_own k)) j tx (a (100 + q)) s := hE.2.1 (am_cn (am_own k), j, tx, q) (List.mem_of_getElem? hr)
  have kk := kk hL ls H locs hP hS hl
  rw [List.map_cons, am_v_ref (by omega)] at kk
  intro T hT Y
  obtain ⟨t, a1, b1⟩ := kk T hT Y
  exact ⟨t, Y.ldcStringW hx hown (text := tx) (a := a (100 + q)) h1.1 h1.2 (g := F0 m pc ls (st.map (am_v a sio))) rfl (by rw [hb]; exact hd) t a1, b1⟩
theorem as_iload (C : am_C a sio X cI cR cS D k p R s m args c A cells slots) {j : Nat} {x : Int32} (hd : decode (am_cc k) pc = .ok (.iload j, 2)) (hj : lv[j]? = some (some (.int x))) (kk : am_Wt (fun H locs g => W p l e R s m args below meth c H locs cells slots Q g) D a sio cI cR cS m (am_mx k) A s.heap (pc + 2) (lv) (.int x :: st) (G)) : am_Wt (fun H locs g => W p l e R s m args below meth c H locs cells slots Q g) D a sio cI cR cS m (am_mx k) A s.heap (pc) (lv) (st) (G) := by
  obtain ⟨hx, hb, hml, hown, hts, hK, hE, hA, hfr, hlo, hce, hsl, hap, hsio⟩ := C
  intro hL ls H locs hP hS hl
  exact lv_iload hx hb hd (am_lv_at hl hj) (kk hL ls H locs hP hS hl)
theorem as_iload_n (C : am_C a sio X cI cR cS D k p R s m args c A cells slots) {f : Fin 4} {x : Int32} (hd : decode (am_cc k) pc = .ok (.iload_n f, 1)) (hj : lv[f.val]? = some (some (.int x))) (kk : am_Wt (fun H locs g => W p l e R s m args below meth c H locs cells slots Q g) D a sio cI cR cS m (am_mx k) A s.heap (pc + 1) (lv) (.int x :: st) (G)) : am_Wt (fun H locs g => W p l e R s m args below meth c H locs cells slots Q g) D a sio cI cR cS m (am_mx k) A s.heap (pc) (lv) (st) (G) := by
  obtain ⟨hx, hb, hml, hown, hts, hK, hE, hA, hfr, hlo, hce, hsl, hap, hsio⟩ := C
  intro hL ls H locs hP hS hl
  exact lv_iload_n hx hb hd rfl (am_lv_at hl hj) (kk hL ls H locs hP hS hl)
theorem as_lload (C : am_C a sio X cI cR cS D k p R s m args c A cells slots) {j : Nat} {x : Int64} (hd : decode (am_cc k) pc = .ok (.lload j, 2)) (hj : lv[j]? = some (some (.long x))) (kk : am_Wt (fun H locs g => W p l e R s m args below meth c H locs cells slots Q g) D a sio cI cR cS m (am_mx k) A s.heap (pc + 2) (lv) (.long x :: st) (G)) : am_Wt (fun H locs g => W p l e R s m args below meth c H locs cells slots Q g) D a sio cI cR cS m (am_mx k) A s.heap (pc) (lv) (st) (G) := by
  obtain ⟨hx, hb, hml, hown, hts, hK, hE, hA, hfr, hlo, hce, hsl, hap, hsio⟩ := C
  intro hL ls H locs hP hS hl
  exact lv_lload hx hb hd (am_lv_at hl hj) (kk hL ls H locs hP hS hl)
theorem as_lload_n (C : am_C a sio X cI cR cS D k p R s m args c A cells slots) {f : Fin 4} {x : Int64} (hd : decode (am_cc k) pc = .ok (.lload_n f, 1)) (hj : lv[f.val]? = some (some (.long x))) (kk : am_Wt (fun H locs g => W p l e R s m args below meth c H locs cells slots Q g) D a sio cI cR cS m (am_mx k) A s.heap (pc + 1) (lv) (.long x :: st) (G)) : am_Wt (fun H locs g => W p l e R s m args below meth c H locs cells slots Q g) D a sio cI cR cS m (am_mx k) A s.heap (pc) (lv) (st) (G) := by
  obtain ⟨hx, hb, hml, hown, hts, hK, hE, hA, hfr, hlo, hce, hsl, hap, hsio⟩ := C
  intro hL ls H locs hP hS hl
  exact lv_lload_n hx hb hd rfl (am_lv_at hl hj) (kk hL ls H locs hP hS hl)
theorem as_aload (C : am_C a sio X cI cR cS D k p R s m args c A cells slots) {x : Nat} {j : Nat} (hd : decode (am_cc k) pc = .ok (.aload j, 2)) (hj : lv[j]? = some (some (.ref x))) (hx5 : x < 500) (kk : am_Wt (fun H locs g => W p l e R s m args below meth c H locs cells slots Q g) D a sio cI cR cS m (am_mx k) A s.heap (pc + 2) (lv) (.ref x :: st) (G)) : am_Wt (fun H locs g => W p l e R s m args below meth c H locs cells slots Q g) D a sio cI cR cS m (am_mx k) A s.heap (pc) (lv) (st) (G) := by
  obtain ⟨hx, hb, hml, hown, hts, hK, hE, hA, hfr, hlo, hce, hsl, hap, hsio⟩ := C
  intro hL ls H locs hP hS hl
  have h1 := am_lv_at hl hj
  rw [am_v_ref hx5] at h1
  have kk := kk hL ls H locs hP hS hl
  rw [List.map_cons, am_v_ref hx5] at kk
  exact lv_aload hx hb hd h1 kk
theorem as_aload_n (C : am_C a sio X cI cR cS D k p R s m args c A cells slots) {x : Nat} {f : Fin 4} (hd : decode (am_cc k) pc = .ok (.aload_n f, 1)) (hj : lv[f.val]? = some (some (.ref x))) (hx5 : x < 500) (kk : am_Wt (fun H locs g => W p l e R s m args below meth c H locs cells slots Q g) D a sio cI cR cS m (am_mx k) A s.heap (pc + 1) (lv) (.ref x :: st) (G)) : am_Wt (fun H locs g => W p l e R s m args below meth c H locs cells slots Q g) D a sio cI cR cS m (am_mx k) A s.heap (pc) (lv) (st) (G) := by
  obtain ⟨hx, hb, hml, hown, hts, hK, hE, hA, hfr, hlo, hce, hsl, hap, hsio⟩ := C
  intro hL ls H locs hP hS hl
  have h1 := am_lv_at hl hj
  rw [am_v_ref hx5] at h1
  have kk := kk hL ls H locs hP hS hl
  rw [List.map_cons, am_v_ref hx5] at kk
  exact lv_aload_n hx hb hd rfl h1 kk
theorem as_istore (C : am_C a sio X cI cR cS D k p R s m args c A cells slots) {x : Int32} {j : Nat} (hd : decode (am_cc k) pc = .ok (.istore j, 2)) (ho : am_ok1 lv j = true) (kk : am_Wt (fun H locs g => W p l e R s m args below meth c H locs cells slots Q g) D a sio cI cR cS m (am_mx k) A s.heap (pc + 2) (lv.set j (some (.int x))) (st) (G)) : am_Wt (fun H locs g => W p l e R s m args below meth c H locs cells slots Q g) D a sio cI cR cS m (am_mx k) A s.heap (pc) (lv) (.int x :: st) (G) := by
  obtain ⟨hx, hb, hml, hown, hts, hK, hE, hA, hfr, hlo, hce, hsl, hap, hsio⟩ := C
  intro hL ls H locs hP hS hl
  have hlt := (am_ok1_spec ho).1
  refine lv_istore hx hb hd hl (by omega) rfl (fun ls' hl' => ?_)
  exact kk (by rw [List.length_set]; exact hL) ls' H locs hP hS (am_lv_set (am_v_cat hsio) ho (by exact hl'))
theorem as_istore_n (C : am_C a sio X cI cR cS D k p R s m args c A cells slots) {x : Int32} {f : Fin 4} (hd : decode (am_cc k) pc = .ok (.istore_n f, 1)) (ho : am_ok1 lv f.val = true) (kk : am_Wt (fun H locs g => W p l e R s m args below meth c H locs cells slots Q g) D a sio cI cR cS m (am_mx k) A s.heap (pc + 1) (lv.set f.val (some (.int x))) (st) (G)) : am_Wt (fun H locs g => W p l e R s m args below meth c H locs cells slots Q g) D a sio cI cR cS m (am_mx k) A s.heap (pc) (lv) (.int x :: st) (G) := by
  obtain ⟨hx, hb, hml, hown, hts, hK, hE, hA, hfr, hlo, hce, hsl, hap, hsio⟩ := C
  intro hL ls H locs hP hS hl
  have hlt := (am_ok1_spec ho).1
  refine lv_istore_n hx hb hd rfl hl (by omega) rfl (fun ls' hl' => ?_)
  exact kk (by rw [List.length_set]; exact hL) ls' H locs hP hS (am_lv_set (am_v_cat hsio) ho (by exact hl'))
theorem as_astore (C : am_C a sio X cI cR cS D k p R s m args c A cells slots) {x : Nat} {j : Nat} (hd : decode (am_cc k) pc = .ok (.astore j, 2)) (ho : am_ok1 lv j = true) (hx5 : x < 500) (kk : am_Wt (fun H locs g => W p l e R s m args below meth c H locs cells slots Q g) D a sio cI cR cS m (am_mx k) A s.heap (pc + 2) (lv.set j (some (.ref x))) (st) (G)) : am_Wt (fun H locs g => W p l e R s m args below meth c H locs cells slots Q g) D a sio cI cR cS m (am_mx k) A s.heap (pc) (lv) (.ref x :: st) (G) := by
  obtain ⟨hx, hb, hml, hown, hts, hK, hE, hA, hfr, hlo, hce, hsl, hap, hsio⟩ := C
  intro hL ls H locs hP hS hl
  have hlt := (am_ok1_spec ho).1
  rw [List.map_cons, am_v_ref hx5]
  refine lv_astore hx hb hd hl (by omega) rfl (fun ls' hl' => ?_)
  exact kk (by rw [List.length_set]; exact hL) ls' H locs hP hS (am_lv_set (am_v_cat hsio) ho (by rw [am_v_ref hx5]; exact hl'))
theorem as_astore_n (C : am_C a sio X cI cR cS D k p R s m args c A cells slots) {x : Nat} {f : Fin 4} (hd : decode (am_cc k) pc = .ok (.astore_n f, 1)) (ho : am_ok1 lv f.val = true) (hx5 : x < 500) (kk : am_Wt (fun H locs g => W p l e R s m args below meth c H locs cells slots Q g) D a sio cI cR cS m (am_mx k) A s.heap (pc + 1) (lv.set f.val (some (.ref x))) (st) (G)) : am_Wt (fun H locs g => W p l e R s m args below meth c H locs cells slots Q g) D a sio cI cR cS m (am_mx k) A s.heap (pc) (lv) (.ref x :: st) (G) := by
  obtain ⟨hx, hb, hml, hown, hts, hK, hE, hA, hfr, hlo, hce, hsl, hap, hsio⟩ := C
  intro hL ls H locs hP hS hl
  have hlt := (am_ok1_spec ho).1
  rw [List.map_cons, am_v_ref hx5]
  refine lv_astore_n hx hb hd rfl hl (by omega) rfl (fun ls' hl' => ?_)
  exact kk (by rw [List.length_set]; exact hL) ls' H locs hP hS (am_lv_set (am_v_cat hsio) ho (by rw [am_v_ref hx5]; exact hl'))
theorem as_lstore (C : am_C a sio X cI cR cS D k p R s m args c A cells slots) {x : Int64} {j : Nat} (hd : decode (am_cc k) pc = .ok (.lstore j, 2)) (ho : am_ok2 lv j = true) (kk : am_Wt (fun H locs g => W p l e R s m args below meth c H locs cells slots Q g) D a sio cI cR cS m (am_mx k) A s.heap (pc + 2) ((lv.set j (some (.long x))).set (j + 1) none) (st) (G)) : am_Wt (fun H locs g => W p l e R s m args below meth c H locs cells slots Q g) D a sio cI cR cS m (am_mx k) A s.heap (pc) (lv) (.long x :: st) (G) := by
  obtain ⟨hx, hb, hml, hown, hts, hK, hE, hA, hfr, hlo, hce, hsl, hap, hsio⟩ := C
  intro hL ls H locs hP hS hl
  have ho2 := ho
  simp only [am_ok2, Bool.and_eq_true, decide_eq_true_eq] at ho2
  refine lv_lstore hx hb hd hl (by omega) rfl (fun ls' hl' => ?_)
  exact kk (by rw [List.length_set, List.length_set]; exact hL) ls' H locs hP hS (am_lv_set2 (am_v_cat hsio) ho hl')
theorem as_lstore_n (C : am_C a sio X cI cR cS D k p R s m args c A cells slots) {x : Int64} {f : Fin 4} (hd : decode (am_cc k) pc = .ok (.lstore_n f, 1)) (ho : am_ok2 lv f.val = true) (kk : am_Wt (fun H locs g => W p l e R s m args below meth c H locs cells slots Q g) D a sio cI cR cS m (am_mx k) A s.heap (pc + 1) ((lv.set f.val (some (.long x))).set (f.val + 1) none) (st) (G)) : am_Wt (fun H locs g => W p l e R s m args below meth c H locs cells slots Q g) D a sio cI cR cS m (am_mx k) A s.heap (pc) (lv) (.long x :: st) (G) := by
  obtain ⟨hx, hb, hml, hown, hts, hK, hE, hA, hfr, hlo, hce, hsl, hap, hsio⟩ := C
  intro hL ls H locs hP hS hl
  have ho2 := ho
  simp only [am_ok2, Bool.and_eq_true, decide_eq_true_eq] at ho2
  refine lv_lstore_n hx hb hd rfl hl (by omega) rfl (fun ls' hl' => ?_)
  exact kk (by rw [List.length_set, List.length_set]; exact hL) ls' H locs hP hS (am_lv_set2 (am_v_cat hsio) ho hl')
theorem as_iinc (C : am_C a sio X cI cR cS D k p R s m args c A cells slots) {j : Nat} {n : Int} {x : Int32} (hd : decode (am_cc k) pc = .ok (.iinc j n, 3)) (hj : lv[j]? = some (some (.int x))) (ho : am_ok1 lv j = true) (kk : am_Wt (fun H locs g => W p l e R s m args below meth c H locs cells slots Q g) D a sio cI cR cS m (am_mx k) A s.heap (pc + 3) (lv.set j (some (.int (x + am_ci n)))) (st) (G)) : am_Wt (fun H locs g => W p l e R s m args below meth c H locs cells slots Q g) D a sio cI cR cS m (am_mx k) A s.heap (pc) (lv) (st) (G) := by
  obtain ⟨hx, hb, hml, hown, hts, hK, hE, hA, hfr, hlo, hce, hsl, hap, hsio⟩ := C
  intro hL ls H locs hP hS hl
  have hlt := (am_ok1_spec ho).1
  obtain ⟨q, hq⟩ := List.getElem?_of_mem ((am_lvo_mem (am_v a sio) lv 0 (j, .int x)).mpr ⟨j, .int x, hj, by simp [am_v]⟩)
  refine lv_iinc hx hb hd hl hq rfl (by omega) rfl (fun ls' hl' => ?_)
  exact kk (by rw [List.length_set]; exact hL) ls' H locs hP hS (am_lv_set (am_v_cat hsio) ho hl')
theorem as_iadd (C : am_C a sio X cI cR cS D k p R s m args c A cells slots) {x y : Int32} (hd : decode (am_cc k) pc = .ok (.iadd, 1)) (kk : am_Wt (fun H locs g => W p l e R s m args below meth c H locs cells slots Q g) D a sio cI cR cS m (am_mx k) A s.heap (pc + 1) (lv) (.int (x + y) :: st) (G)) : am_Wt (fun H locs g => W p l e R s m args below meth c H locs cells slots Q g) D a sio cI cR cS m (am_mx k) A s.heap (pc) (lv) (.int y :: .int x :: st) (G) := by
  obtain ⟨hx, hb, hml, hown, hts, hK, hE, hA, hfr, hlo, hce, hsl, hap, hsio⟩ := C
  intro hL ls H locs hP hS hl
  exact lv_iadd hx hb hd (kk hL ls H locs hP hS hl)
theorem as_isub (C : am_C a sio X cI cR cS D k p R s m args c A cells slots) {x y : Int32} (hd : decode (am_cc k) pc = .ok (.isub, 1)) (kk : am_Wt (fun H locs g => W p l e R s m args below meth c H locs cells slots Q g) D a sio cI cR cS m (am_mx k) A s.heap (pc + 1) (lv) (.int (x - y) :: st) (G)) : am_Wt (fun H locs g => W p l e R s m args below meth c H locs cells slots Q g) D a sio cI cR cS m (am_mx k) A s.heap (pc) (lv) (.int y :: .int x :: st) (G) := by
  obtain ⟨hx, hb, hml, hown, hts, hK, hE, hA, hfr, hlo, hce, hsl, hap, hsio⟩ := C
  intro hL ls H locs hP hS hl
  exact lv_isub hx hb hd (kk hL ls H locs hP hS hl)
theorem as_imul (C : am_C a sio X cI cR cS D k p R s m args c A cells slots) {x y : Int32} (hd : decode (am_cc k) pc = .ok (.imul, 1)) (kk : am_Wt (fun H locs g => W p l e R s m args below meth c H locs cells slots Q g) D a sio cI cR cS m (am_mx k) A s.heap (pc + 1) (lv) (.int (x * y) :: st) (G)) : am_Wt (fun H locs g => W p l e R s m args below meth c H locs cells slots Q g) D a sio cI cR cS m (am_mx k) A s.heap (pc) (lv) (.int y :: .int x :: st) (G) := by
  obtain ⟨hx, hb, hml, hown, hts, hK, hE, hA, hfr, hlo, hce, hsl, hap, hsio⟩ := C
  intro hL ls H locs hP hS hl
  exact lv_imul hx hb hd (kk hL ls H locs hP hS hl)
theorem as_iand (C : am_C a sio X cI cR cS D k p R s m args c A cells slots) {x y : Int32} (hd : decode (am_cc k) pc = .ok (.iand, 1)) (kk : am_Wt (fun H locs g => W p l e R s m args below meth c H locs cells slots Q g) D a sio cI cR cS m (am_mx k) A s.heap (pc + 1) (lv) (.int (x &&& y) :: st) (G)) : am_Wt (fun H locs g => W p l e R s m args below meth c H locs cells slots Q g) D a sio cI cR cS m (am_mx k) A s.heap (pc) (lv) (.int y :: .int x :: st) (G) := by
  obtain ⟨hx, hb, hml, hown, hts, hK, hE, hA, hfr, hlo, hce, hsl, hap, hsio⟩ := C
  intro hL ls H locs hP hS hl
  exact lv_iand hx hb hd (kk hL ls H locs hP hS hl)
theorem as_ior (C : am_C a sio X cI cR cS D k p R s m args c A cells slots) {x y : Int32} (hd : decode (am_cc k) pc = .ok (.ior, 1)) (kk : am_Wt (fun H locs g => W p l e R s m args below meth c H locs cells slots Q g) D a sio cI cR cS m (am_mx k) A s.heap (pc + 1) (lv) (.int (x ||| y) :: st) (G)) : am_Wt (fun H locs g => W p l e R s m args below meth c H locs cells slots Q g) D a sio cI cR cS m (am_mx k) A s.heap (pc) (lv) (.int y :: .int x :: st) (G) := by
  obtain ⟨hx, hb, hml, hown, hts, hK, hE, hA, hfr, hlo, hce, hsl, hap, hsio⟩ := C
  intro hL ls H locs hP hS hl
  exact lv_ior hx hb hd (kk hL ls H locs hP hS hl)
theorem as_ixor (C : am_C a sio X cI cR cS D k p R s m args c A cells slots) {x y : Int32} (hd : decode (am_cc k) pc = .ok (.ixor, 1)) (kk : am_Wt (fun H locs g => W p l e R s m args below meth c H locs cells slots Q g) D a sio cI cR cS m (am_mx k) A s.heap (pc + 1) (lv) (.int (x ^^^ y) :: st) (G)) : am_Wt (fun H locs g => W p l e R s m args below meth c H locs cells slots Q g) D a sio cI cR cS m (am_mx k) A s.heap (pc) (lv) (.int y :: .int x :: st) (G) := by
  obtain ⟨hx, hb, hml, hown, hts, hK, hE, hA, hfr, hlo, hce, hsl, hap, hsio⟩ := C
  intro hL ls H locs hP hS hl
  exact lv_ixor hx hb hd (kk hL ls H locs hP hS hl)
theorem as_ishl (C : am_C a sio X cI cR cS D k p R s m args c A cells slots) {x y : Int32} (hd : decode (am_cc k) pc = .ok (.ishl, 1)) (kk : am_Wt (fun H locs g => W p l e R s m args below meth c H locs cells slots Q g) D a sio cI cR cS m (am_mx k) A s.heap (pc + 1) (lv) (.int (x <<< (y &&& 31)) :: st) (G)) : am_Wt (fun H locs g => W p l e R s m args below meth c H locs cells slots Q g) D a sio cI cR cS m (am_mx k) A s.heap (pc) (lv) (.int y :: .int x :: st) (G) := by
  obtain ⟨hx, hb, hml, hown, hts, hK, hE, hA, hfr, hlo, hce, hsl, hap, hsio⟩ := C
  intro hL ls H locs hP hS hl
  exact lv_ishl hx hb hd (kk hL ls H locs hP hS hl)
theorem as_ishr (C : am_C a sio X cI cR cS D k p R s m args c A cells slots) {x y : Int32} (hd : decode (am_cc k) pc = .ok (.ishr, 1)) (kk : am_Wt (fun H locs g => W p l e R s m args below meth c H locs cells slots Q g) D a sio cI cR cS m (am_mx k) A s.heap (pc + 1) (lv) (.int (x >>> (y &&& 31)) :: st) (G)) : am_Wt (fun H locs g => W p l e R s m args below meth c H locs cells slots Q g) D a sio cI cR cS m (am_mx k) A s.heap (pc) (lv) (.int y :: .int x :: st) (G) := by
  obtain ⟨hx, hb, hml, hown, hts, hK, hE, hA, hfr, hlo, hce, hsl, hap, hsio⟩ := C
  intro hL ls H locs hP hS hl
  exact lv_ishr hx hb hd (kk hL ls H locs hP hS hl)
theorem as_iushr (C : am_C a sio X cI cR cS D k p R s m args c A cells slots) {x y : Int32} (hd : decode (am_cc k) pc = .ok (.iushr, 1)) (kk : am_Wt (fun H locs g => W p l e R s m args below meth c H locs cells slots Q g) D a sio cI cR cS m (am_mx k) A s.heap (pc + 1) (lv) (.int ((x.toUInt32 >>> (y.toUInt32 &&& Int32.toUInt32 31)).toInt32) :: st) (G)) : am_Wt (fun H locs g => W p l e R s m args below meth c H locs cells slots Q g) D a sio cI cR cS m (am_mx k) A s.heap (pc) (lv) (.int y :: .int x :: st) (G) := by
  obtain ⟨hx, hb, hml, hown, hts, hK, hE, hA, hfr, hlo, hce, hsl, hap, hsio⟩ := C
  intro hL ls H locs hP hS hl
  exact lv_iushr hx hb hd rfl (kk hL ls H locs hP hS hl)
theorem as_idiv (C : am_C a sio X cI cR cS D k p R s m args c A cells slots) {x y : Int32} (hd : decode (am_cc k) pc = .ok (.idiv, 1)) (hne : ¬ y = nI 0) (kk : am_Wt (fun H locs g => W p l e R s m args below meth c H locs cells slots Q g) D a sio cI cR cS m (am_mx k) A s.heap (pc + 1) (lv) (.int (x / y) :: st) (G)) : am_Wt (fun H locs g => W p l e R s m args below meth c H locs cells slots Q g) D a sio cI cR cS m (am_mx k) A s.heap (pc) (lv) (.int y :: .int x :: st) (G) := by
  obtain ⟨hx, hb, hml, hown, hts, hK, hE, hA, hfr, hlo, hce, hsl, hap, hsio⟩ := C
  intro hL ls H locs hP hS hl
  exact lv_idiv hx hb hd hne (kk hL ls H locs hP hS hl)
theorem as_irem (C : am_C a sio X cI cR cS D k p R s m args c A cells slots) {x y : Int32} (hd : decode (am_cc k) pc = .ok (.irem, 1)) (hne : ¬ y = nI 0) (kk : am_Wt (fun H locs g => W p l e R s m args below meth c H locs cells slots Q g) D a sio cI cR cS m (am_mx k) A s.heap (pc + 1) (lv) (.int (x - x / y * y) :: st) (G)) : am_Wt (fun H locs g => W p l e R s m args below meth c H locs cells slots Q g) D a sio cI cR cS m (am_mx k) A s.heap (pc) (lv) (.int y :: .int x :: st) (G) := by
  obtain ⟨hx, hb, hml, hown, hts, hK, hE, hA, hfr, hlo, hce, hsl, hap, hsio⟩ := C
  intro hL ls H locs hP hS hl
  exact lv_irem hx hb hd hne (kk hL ls H locs hP hS hl)
theorem as_ladd (C : am_C a sio X cI cR cS D k p R s m args c A cells slots) {x y : Int64} (hd : decode (am_cc k) pc = .ok (.ladd, 1)) (kk : am_Wt (fun H locs g => W p l e R s m args below meth c H locs cells slots Q g) D a sio cI cR cS m (am_mx k) A s.heap (pc + 1) (lv) (.long (x + y) :: st) (G)) : am_Wt (fun H locs g => W p l e R s m args below meth c H locs cells slots Q g) D a sio cI cR cS m (am_mx k) A s.heap (pc) (lv) (.long y :: .long x :: st) (G) := by
  obtain ⟨hx, hb, hml, hown, hts, hK, hE, hA, hfr, hlo, hce, hsl, hap, hsio⟩ := C
  intro hL ls H locs hP hS hl
  exact lv_ladd hx hb hd (kk hL ls H locs hP hS hl)
theorem as_lmul (C : am_C a sio X cI cR cS D k p R s m args c A cells slots) {x y : Int64} (hd : decode (am_cc k) pc = .ok (.lmul, 1)) (kk : am_Wt (fun H locs g => W p l e R s m args below meth c H locs cells slots Q g) D a sio cI cR cS m (am_mx k) A s.heap (pc + 1) (lv) (.long (x * y) :: st) (G)) : am_Wt (fun H locs g => W p l e R s m args below meth c H locs cells slots Q g) D a sio cI cR cS m (am_mx k) A s.heap (pc) (lv) (.long y :: .long x :: st) (G) := by
  obtain ⟨hx, hb, hml, hown, hts, hK, hE, hA, hfr, hlo, hce, hsl, hap, hsio⟩ := C
  intro hL ls H locs hP hS hl
  exact lv_lmul hx hb hd (kk hL ls H locs hP hS hl)
theorem as_lcmp (C : am_C a sio X cI cR cS D k p R s m args c A cells slots) {x y : Int64} (hd : decode (am_cc k) pc = .ok (.lcmp, 1)) (kk : am_Wt (fun H locs g => W p l e R s m args below meth c H locs cells slots Q g) D a sio cI cR cS m (am_mx k) A s.heap (pc + 1) (lv) (.int (lg_cmp x y) :: st) (G)) : am_Wt (fun H locs g => W p l e R s m args below meth c H locs cells slots Q g) D a sio cI cR cS m (am_mx k) A s.heap (pc) (lv) (.long y :: .long x :: st) (G) := by
  obtain ⟨hx, hb, hml, hown, hts, hK, hE, hA, hfr, hlo, hce, hsl, hap, hsio⟩ := C
  intro hL ls H locs hP hS hl
  exact W.lcmp hx hb hd (kk hL ls H locs hP hS hl)
theorem as_ineg (C : am_C a sio X cI cR cS D k p R s m args c A cells slots) {x : Int32} (hd : decode (am_cc k) pc = .ok (.ineg, 1)) (kk : am_Wt (fun H locs g => W p l e R s m args below meth c H locs cells slots Q g) D a sio cI cR cS m (am_mx k) A s.heap (pc + 1) (lv) (.int (-x) :: st) (G)) : am_Wt (fun H locs g => W p l e R s m args below meth c H locs cells slots Q g) D a sio cI cR cS m (am_mx k) A s.heap (pc) (lv) (.int x :: st) (G) := by
  obtain ⟨hx, hb, hml, hown, hts, hK, hE, hA, hfr, hlo, hce, hsl, hap, hsio⟩ := C
  intro hL ls H locs hP hS hl
  exact lv_ineg hx hb hd (kk hL ls H locs hP hS hl)
theorem as_i2b (C : am_C a sio X cI cR cS D k p R s m args c A cells slots) {x : Int32} (hd : decode (am_cc k) pc = .ok (.i2b, 1)) (kk : am_Wt (fun H locs g => W p l e R s m args below meth c H locs cells slots Q g) D a sio cI cR cS m (am_mx k) A s.heap (pc + 1) (lv) (.int (x.toInt8.toInt32) :: st) (G)) : am_Wt (fun H locs g => W p l e R s m args below meth c H locs cells slots Q g) D a sio cI cR cS m (am_mx k) A s.heap (pc) (lv) (.int x :: st) (G) := by
  obtain ⟨hx, hb, hml, hown, hts, hK, hE, hA, hfr, hlo, hce, hsl, hap, hsio⟩ := C
  intro hL ls H locs hP hS hl
  exact lv_i2b hx hb hd rfl (kk hL ls H locs hP hS hl)
theorem as_i2s (C : am_C a sio X cI cR cS D k p R s m args c A cells slots) {x : Int32} (hd : decode (am_cc k) pc = .ok (.i2s, 1)) (kk : am_Wt (fun H locs g => W p l e R s m args below meth c H locs cells slots Q g) D a sio cI cR cS m (am_mx k) A s.heap (pc + 1) (lv) (.int (x.toInt16.toInt32) :: st) (G)) : am_Wt (fun H locs g => W p l e R s m args below meth c H locs cells slots Q g) D a sio cI cR cS m (am_mx k) A s.heap (pc) (lv) (.int x :: st) (G) := by
  obtain ⟨hx, hb, hml, hown, hts, hK, hE, hA, hfr, hlo, hce, hsl, hap, hsio⟩ := C
  intro hL ls H locs hP hS hl
  exact lv_i2s hx hb hd rfl (kk hL ls H locs hP hS hl)
theorem as_i2c (C : am_C a sio X cI cR cS D k p R s m args c A cells slots) {x : Int32} (hd : decode (am_cc k) pc = .ok (.i2c, 1)) (kk : am_Wt (fun H locs g => W p l e R s m args below meth c H locs cells slots Q g) D a sio cI cR cS m (am_mx k) A s.heap (pc + 1) (lv) (.int ((x.toUInt32 % 65536).toInt32) :: st) (G)) : am_Wt (fun H locs g => W p l e R s m args below meth c H locs cells slots Q g) D a sio cI cR cS m (am_mx k) A s.heap (pc) (lv) (.int x :: st) (G) := by
  obtain ⟨hx, hb, hml, hown, hts, hK, hE, hA, hfr, hlo, hce, hsl, hap, hsio⟩ := C
  intro hL ls H locs hP hS hl
  exact lv_i2c hx hb hd rfl (kk hL ls H locs hP hS hl)
theorem as_i2l (C : am_C a sio X cI cR cS D k p R s m args c A cells slots) {x : Int32} (hd : decode (am_cc k) pc = .ok (.i2l, 1)) (kk : am_Wt (fun H locs g => W p l e R s m args below meth c H locs cells slots Q g) D a sio cI cR cS m (am_mx k) A s.heap (pc + 1) (lv) (.long (x.toInt64) :: st) (G)) : am_Wt (fun H locs g => W p l e R s m args below meth c H locs cells slots Q g) D a sio cI cR cS m (am_mx k) A s.heap (pc) (lv) (.int x :: st) (G) := by
  obtain ⟨hx, hb, hml, hown, hts, hK, hE, hA, hfr, hlo, hce, hsl, hap, hsio⟩ := C
  intro hL ls H locs hP hS hl
  exact lv_i2l hx hb hd rfl (kk hL ls H locs hP hS hl)
theorem am_c1_cat {v : Value} (h : am_c1 v = true) : v.category = 1 := by cases v <;> first | rfl | (exact absurd h Bool.false_ne_true)
theorem as_dup (C : am_C a sio X cI cR cS D k p R s m args c A cells slots) {v : Value} (hd : decode (am_cc k) pc = .ok (.dup, 1)) (hv : am_c1 v = true) (kk : am_Wt (fun H locs g => W p l e R s m args below meth c H locs cells slots Q g) D a sio cI cR cS m (am_mx k) A s.heap (pc + 1) (lv) (v :: v :: st) (G)) : am_Wt (fun H locs g => W p l e R s m args below meth c H locs cells slots Q g) D a sio cI cR cS m (am_mx k) A s.heap (pc) (lv) (v :: st) (G) := by
  obtain ⟨hx, hb, hml, hown, hts, hK, hE, hA, hfr, hlo, hce, hsl, hap, hsio⟩ := C
  intro hL ls H locs hP hS hl
  exact lv_dup hx hb hd ((am_v_cat hsio v).trans (am_c1_cat hv)) (kk hL ls H locs hP hS hl)
theorem as_dup2 (C : am_C a sio X cI cR cS D k p R s m args c A cells slots) {v w : Value} (hd : decode (am_cc k) pc = .ok (.dup2, 1)) (hv : am_c1 v = true) (hw : am_c1 w = true) (kk : am_Wt (fun H locs g => W p l e R s m args below meth c H locs cells slots Q g) D a sio cI cR cS m (am_mx k) A s.heap (pc + 1) (lv) (v :: w :: v :: w :: st) (G)) : am_Wt (fun H locs g => W p l e R s m args below meth c H locs cells slots Q g) D a sio cI cR cS m (am_mx k) A s.heap (pc) (lv) (v :: w :: st) (G) := by
  obtain ⟨hx, hb, hml, hown, hts, hK, hE, hA, hfr, hlo, hce, hsl, hap, hsio⟩ := C
  intro hL ls H locs hP hS hl
  exact lv_dup2_11 hx hb hd ((am_v_cat hsio v).trans (am_c1_cat hv)) ((am_v_cat hsio w).trans (am_c1_cat hw)) (kk hL ls H locs hP hS hl)
theorem as_pop (C : am_C a sio X cI cR cS D k p R s m args c A cells slots) {v : Value} (hd : decode (am_cc k) pc = .ok (.pop, 1)) (hv : am_c1 v = true) (kk : am_Wt (fun H locs g => W p l e R s m args below meth c H locs cells slots Q g) D a sio cI cR cS m (am_mx k) A s.heap (pc + 1) (lv) (st) (G)) : am_Wt (fun H locs g => W p l e R s m args below meth c H locs cells slots Q g) D a sio cI cR cS m (am_mx k) A s.heap (pc) (lv) (v :: st) (G) := by
  obtain ⟨hx, hb, hml, hown, hts, hK, hE, hA, hfr, hlo, hce, hsl, hap, hsio⟩ := C
  intro hL ls H locs hP hS hl
  exact lv_pop hx hb hd ((am_v_cat hsio v).trans (am_c1_cat hv)) (kk hL ls H locs hP hS hl)
theorem as_goto (C : am_C a sio X cI cR cS D k p R s m args c A cells slots) {t : Int} (hd : decode (am_cc k) pc = .ok (.goto t, 3)) (h0 : 0 ≤ (pc : Int) + t) (kk : am_Wt (fun H locs g => W p l e R s m args below meth c H locs cells slots Q g) D a sio cI cR cS m (am_mx k) A s.heap (((pc : Int) + t).toNat) (lv) (st) (G)) : am_Wt (fun H locs g => W p l e R s m args below meth c H locs cells slots Q g) D a sio cI cR cS m (am_mx k) A s.heap (pc) (lv) (st) (G) := by
  obtain ⟨hx, hb, hml, hown, hts, hK, hE, hA, hfr, hlo, hce, hsl, hap, hsio⟩ := C
  intro hL ls H locs hP hS hl
  exact lv_goto hx hb hd (Int.toNat_of_nonneg h0).symm (kk hL ls H locs hP hS hl)
theorem as_if_eq (C : am_C a sio X cI cR cS D k p R s m args c A cells slots) {t : Int} {x : Int32} (hd : decode (am_cc k) pc = .ok (.ifCond .eq t, 3)) (h0 : 0 ≤ (pc : Int) + t) (kt : x = 0 → am_Wt (fun H locs g => W p l e R s m args below meth c H locs cells slots Q g) D a sio cI cR cS m (am_mx k) A s.heap (((pc : Int) + t).toNat) (lv) (st) (G)) (kf : ¬ x = 0 → am_Wt (fun H locs g => W p l e R s m args below meth c H locs cells slots Q g) D a sio cI cR cS m (am_mx k) A s.heap (pc + 3) (lv) (st) (G)) : am_Wt (fun H locs g => W p l e R s m args below meth c H locs cells slots Q g) D a sio cI cR cS m (am_mx k) A s.heap (pc) (lv) (.int x :: st) (G) := by
  obtain ⟨hx, hb, hml, hown, hts, hK, hE, hA, hfr, hlo, hce, hsl, hap, hsio⟩ := C
  intro hL ls H locs hP hS hl
  exact lv_if_eq hx hb hd (Int.toNat_of_nonneg h0).symm (fun h => kt h hL ls H locs hP hS hl) (fun h => kf h hL ls H locs hP hS hl)
theorem as_icmp_eq (C : am_C a sio X cI cR cS D k p R s m args c A cells slots) {t : Int} {x y : Int32} (hd : decode (am_cc k) pc = .ok (.if_icmp .eq t, 3)) (h0 : 0 ≤ (pc : Int) + t) (kt : x = y → am_Wt (fun H locs g => W p l e R s m args below meth c H locs cells slots Q g) D a sio cI cR cS m (am_mx k) A s.heap (((pc : Int) + t).toNat) (lv) (st) (G)) (kf : ¬ x = y → am_Wt (fun H locs g => W p l e R s m args below meth c H locs cells slots Q g) D a sio cI cR cS m (am_mx k) A s.heap (pc + 3) (lv) (st) (G)) : am_Wt (fun H locs g => W p l e R s m args below meth c H locs cells slots Q g) D a sio cI cR cS m (am_mx k) A s.heap (pc) (lv) (.int y :: .int x :: st) (G) := by
  obtain ⟨hx, hb, hml, hown, hts, hK, hE, hA, hfr, hlo, hce, hsl, hap, hsio⟩ := C
  intro hL ls H locs hP hS hl
  exact lv_icmp_eq hx hb hd (Int.toNat_of_nonneg h0).symm (fun h => kt h hL ls H locs hP hS hl) (fun h => kf h hL ls H locs hP hS hl)
theorem as_if_ne (C : am_C a sio X cI cR cS D k p R s m args c A cells slots) {t : Int} {x : Int32} (hd : decode (am_cc k) pc = .ok (.ifCond .ne t, 3)) (h0 : 0 ≤ (pc : Int) + t) (kt : ¬ x = 0 → am_Wt (fun H locs g => W p l e R s m args below meth c H locs cells slots Q g) D a sio cI cR cS m (am_mx k) A s.heap (((pc : Int) + t).toNat) (lv) (st) (G)) (kf : x = 0 → am_Wt (fun H locs g => W p l e R s m args below meth c H locs cells slots Q g) D a sio cI cR cS m (am_mx k) A s.heap (pc + 3) (lv) (st) (G)) : am_Wt (fun H locs g => W p l e R s m args below meth c H locs cells slots Q g) D a sio cI cR cS m (am_mx k) A s.heap (pc) (lv) (.int x :: st) (G) := by
  obtain ⟨hx, hb, hml, hown, hts, hK, hE, hA, hfr, hlo, hce, hsl, hap, hsio⟩ := C
  intro hL ls H locs hP hS hl
  exact lv_if_ne hx hb hd (Int.toNat_of_nonneg h0).symm (fun h => kt h hL ls H locs hP hS hl) (fun h => kf h hL ls H locs hP hS hl)
theorem as_icmp_ne (C : am_C a sio X cI cR cS D k p R s m args c A cells slots) {t : Int} {x y : Int32} (hd : decode (am_cc k) pc = .ok (.if_icmp .ne t, 3)) (h0 : 0 ≤ (pc : Int) + t) (kt : ¬ x = y → am_Wt (fun H locs g => W p l e R s m args below meth c H locs cells slots Q g) D a sio cI cR cS m (am_mx k) A s.heap (((pc : Int) + t).toNat) (lv) (st) (G)) (kf : x = y → am_Wt (fun H locs g => W p l e R s m args below meth c H locs cells slots Q g) D a sio cI cR cS m (am_mx k) A s.heap (pc + 3) (lv) (st) (G)) : am_Wt (fun H locs g => W p l e R s m args below meth c H locs cells slots Q g) D a sio cI cR cS m (am_mx k) A s.heap (pc) (lv) (.int y :: .int x :: st) (G) := by
  obtain ⟨hx, hb, hml, hown, hts, hK, hE, hA, hfr, hlo, hce, hsl, hap, hsio⟩ := C
  intro hL ls H locs hP hS hl
  exact lv_icmp_ne hx hb hd (Int.toNat_of_nonneg h0).symm (fun h => kt h hL ls H locs hP hS hl) (fun h => kf h hL ls H locs hP hS hl)
theorem as_if_lt (C : am_C a sio X cI cR cS D k p R s m args c A cells slots) {t : Int} {x : Int32} (hd : decode (am_cc k) pc = .ok (.ifCond .lt t, 3)) (h0 : 0 ≤ (pc : Int) + t) (kt : x < 0 → am_Wt (fun H locs g => W p l e R s m args below meth c H locs cells slots Q g) D a sio cI cR cS m (am_mx k) A s.heap (((pc : Int) + t).toNat) (lv) (st) (G)) (kf : ¬ x < 0 → am_Wt (fun H locs g => W p l e R s m args below meth c H locs cells slots Q g) D a sio cI cR cS m (am_mx k) A s.heap (pc + 3) (lv) (st) (G)) : am_Wt (fun H locs g => W p l e R s m args below meth c H locs cells slots Q g) D a sio cI cR cS m (am_mx k) A s.heap (pc) (lv) (.int x :: st) (G) := by
  obtain ⟨hx, hb, hml, hown, hts, hK, hE, hA, hfr, hlo, hce, hsl, hap, hsio⟩ := C
  intro hL ls H locs hP hS hl
  exact lv_if_lt hx hb hd (Int.toNat_of_nonneg h0).symm (fun h => kt h hL ls H locs hP hS hl) (fun h => kf h hL ls H locs hP hS hl)
theorem as_icmp_lt (C : am_C a sio X cI cR cS D k p R s m args c A cells slots) {t : Int} {x y : Int32} (hd : decode (am_cc k) pc = .ok (.if_icmp .lt t, 3)) (h0 : 0 ≤ (pc : Int) + t) (kt : x < y → am_Wt (fun H locs g => W p l e R s m args below meth c H locs cells slots Q g) D a sio cI cR cS m (am_mx k) A s.heap (((pc : Int) + t).toNat) (lv) (st) (G)) (kf : ¬ x < y → am_Wt (fun H locs g => W p l e R s m args below meth c H locs cells slots Q g) D a sio cI cR cS m (am_mx k) A s.heap (pc + 3) (lv) (st) (G)) : am_Wt (fun H locs g => W p l e R s m args below meth c H locs cells slots Q g) D a sio cI cR cS m (am_mx k) A s.heap (pc) (lv) (.int y :: .int x :: st) (G) := by
  obtain ⟨hx, hb, hml, hown, hts, hK, hE, hA, hfr, hlo, hce, hsl, hap, hsio⟩ := C
  intro hL ls H locs hP hS hl
  exact lv_icmp_lt hx hb hd (Int.toNat_of_nonneg h0).symm (fun h => kt h hL ls H locs hP hS hl) (fun h => kf h hL ls H locs hP hS hl)
theorem as_if_ge (C : am_C a sio X cI cR cS D k p R s m args c A cells slots) {t : Int} {x : Int32} (hd : decode (am_cc k) pc = .ok (.ifCond .ge t, 3)) (h0 : 0 ≤ (pc : Int) + t) (kt : 0 ≤ x → am_Wt (fun H locs g => W p l e R s m args below meth c H locs cells slots Q g) D a sio cI cR cS m (am_mx k) A s.heap (((pc : Int) + t).toNat) (lv) (st) (G)) (kf : ¬ 0 ≤ x → am_Wt (fun H locs g => W p l e R s m args below meth c H locs cells slots Q g) D a sio cI cR cS m (am_mx k) A s.heap (pc + 3) (lv) (st) (G)) : am_Wt (fun H locs g => W p l e R s m args below meth c H locs cells slots Q g) D a sio cI cR cS m (am_mx k) A s.heap (pc) (lv) (.int x :: st) (G) := by
  obtain ⟨hx, hb, hml, hown, hts, hK, hE, hA, hfr, hlo, hce, hsl, hap, hsio⟩ := C
  intro hL ls H locs hP hS hl
  exact lv_if_ge hx hb hd (Int.toNat_of_nonneg h0).symm (fun h => kt h hL ls H locs hP hS hl) (fun h => kf h hL ls H locs hP hS hl)
theorem as_icmp_ge (C : am_C a sio X cI cR cS D k p R s m args c A cells slots) {t : Int} {x y : Int32} (hd : decode (am_cc k) pc = .ok (.if_icmp .ge t, 3)) (h0 : 0 ≤ (pc : Int) + t) (kt : y ≤ x → am_Wt (fun H locs g => W p l e R s m args below meth c H locs cells slots Q g) D a sio cI cR cS m (am_mx k) A s.heap (((pc : Int) + t).toNat) (lv) (st) (G)) (kf : ¬ y ≤ x → am_Wt (fun H locs g => W p l e R s m args below meth c H locs cells slots Q g) D a sio cI cR cS m (am_mx k) A s.heap (pc + 3) (lv) (st) (G)) : am_Wt (fun H locs g => W p l e R s m args below meth c H locs cells slots Q g) D a sio cI cR cS m (am_mx k) A s.heap (pc) (lv) (.int y :: .int x :: st) (G) := by
  obtain ⟨hx, hb, hml, hown, hts, hK, hE, hA, hfr, hlo, hce, hsl, hap, hsio⟩ := C
  intro hL ls H locs hP hS hl
  exact lv_icmp_ge hx hb hd (Int.toNat_of_nonneg h0).symm (fun h => kt h hL ls H locs hP hS hl) (fun h => kf h hL ls H locs hP hS hl)
theorem as_if_gt (C : am_C a sio X cI cR cS D k p R s m args c A cells slots) {t : Int} {x : Int32} (hd : decode (am_cc k) pc = .ok (.ifCond .gt t, 3)) (h0 : 0 ≤ (pc : Int) + t) (kt : 0 < x → am_Wt (fun H locs g => W p l e R s m args below meth c H locs cells slots Q g) D a sio cI cR cS m (am_mx k) A s.heap (((pc : Int) + t).toNat) (lv) (st) (G)) (kf : ¬ 0 < x → am_Wt (fun H locs g => W p l e R s m args below meth c H locs cells slots Q g) D a sio cI cR cS m (am_mx k) A s.heap (pc + 3) (lv) (st) (G)) : am_Wt (fun H locs g => W p l e R s m args below meth c H locs cells slots Q g) D a sio cI cR cS m (am_mx k) A s.heap (pc) (lv) (.int x :: st) (G) := by
  obtain ⟨hx, hb, hml, hown, hts, hK, hE, hA, hfr, hlo, hce, hsl, hap, hsio⟩ := C
  intro hL ls H locs hP hS hl
  exact lv_if_gt hx hb hd (Int.toNat_of_nonneg h0).symm (fun h => kt h hL ls H locs hP hS hl) (fun h => kf h hL ls H locs hP hS hl)
theorem as_icmp_gt (C : am_C a sio X cI cR cS D k p R s m args c A cells slots) {t : Int} {x y : Int32} (hd : decode (am_cc k) pc = .ok (.if_icmp .gt t, 3)) (h0 : 0 ≤ (pc : Int) + t) (kt : y < x → am_Wt (fun H locs g => W p l e R s m args below meth c H locs cells slots Q g) D a sio cI cR cS m (am_mx k) A s.heap (((pc : Int) + t).toNat) (lv) (st) (G)) (kf : ¬ y < x → am_Wt (fun H locs g => W p l e R s m args below meth c H locs cells slots Q g) D a sio cI cR cS m (am_mx k) A s.heap (pc + 3) (lv) (st) (G)) : am_Wt (fun H locs g => W p l e R s m args below meth c H locs cells slots Q g) D a sio cI cR cS m (am_mx k) A s.heap (pc) (lv) (.int y :: .int x :: st) (G) := by
  obtain ⟨hx, hb, hml, hown, hts, hK, hE, hA, hfr, hlo, hce, hsl, hap, hsio⟩ := C
  intro hL ls H locs hP hS hl
  exact lv_icmp_gt hx hb hd (Int.toNat_of_nonneg h0).symm (fun h => kt h hL ls H locs hP hS hl) (fun h => kf h hL ls H locs hP hS hl)
theorem as_if_le (C : am_C a sio X cI cR cS D k p R s m args c A cells slots) {t : Int} {x : Int32} (hd : decode (am_cc k) pc = .ok (.ifCond .le t, 3)) (h0 : 0 ≤ (pc : Int) + t) (kt : x ≤ 0 → am_Wt (fun H locs g => W p l e R s m args below meth c H locs cells slots Q g) D a sio cI cR cS m (am_mx k) A s.heap (((pc : Int) + t).toNat) (lv) (st) (G)) (kf : ¬ x ≤ 0 → am_Wt (fun H locs g => W p l e R s m args below meth c H locs cells slots Q g) D a sio cI cR cS m (am_mx k) A s.heap (pc + 3) (lv) (st) (G)) : am_Wt (fun H locs g => W p l e R s m args below meth c H locs cells slots Q g) D a sio cI cR cS m (am_mx k) A s.heap (pc) (lv) (.int x :: st) (G) := by
  obtain ⟨hx, hb, hml, hown, hts, hK, hE, hA, hfr, hlo, hce, hsl, hap, hsio⟩ := C
  intro hL ls H locs hP hS hl
  exact lv_if_le hx hb hd (Int.toNat_of_nonneg h0).symm (fun h => kt h hL ls H locs hP hS hl) (fun h => kf h hL ls H locs hP hS hl)
theorem as_icmp_le (C : am_C a sio X cI cR cS D k p R s m args c A cells slots) {t : Int} {x y : Int32} (hd : decode (am_cc k) pc = .ok (.if_icmp .le t, 3)) (h0 : 0 ≤ (pc : Int) + t) (kt : x ≤ y → am_Wt (fun H locs g => W p l e R s m args below meth c H locs cells slots Q g) D a sio cI cR cS m (am_mx k) A s.heap (((pc : Int) + t).toNat) (lv) (st) (G)) (kf : ¬ x ≤ y → am_Wt (fun H locs g => W p l e R s m args below meth c H locs cells slots Q g) D a sio cI cR cS m (am_mx k) A s.heap (pc + 3) (lv) (st) (G)) : am_Wt (fun H locs g => W p l e R s m args below meth c H locs cells slots Q g) D a sio cI cR cS m (am_mx k) A s.heap (pc) (lv) (.int y :: .int x :: st) (G) := by
  obtain ⟨hx, hb, hml, hown, hts, hK, hE, hA, hfr, hlo, hce, hsl, hap, hsio⟩ := C
  intro hL ls H locs hP hS hl
  exact lv_icmp_le hx hb hd (Int.toNat_of_nonneg h0).symm (fun h => kt h hL ls H locs hP hS hl) (fun h => kf h hL ls H locs hP hS hl)
theorem as_switch (C : am_C a sio X cI cR cS D k p R s m args c A cells slots) {d lo hi : Int} {offs : Array Int} {n : Nat} {x : Int32} (hd : decode (am_cc k) pc = .ok (.tableswitch d lo hi offs, n)) (h0 : 0 ≤ am_sw ((pc : Int) + d) lo hi (offs.map fun t => (pc : Int) + t) x) (hsz : ¬ (x.toInt < lo ∨ hi < x.toInt) → (x.toInt - lo).toNat < offs.size) (kk : am_Wt (fun H locs g => W p l e R s m args below meth c H locs cells slots Q g) D a sio cI cR cS m (am_mx k) A s.heap ((am_sw ((pc : Int) + d) lo hi (offs.map fun t => (pc : Int) + t) x).toNat) (lv) (st) (G)) : am_Wt (fun H locs g => W p l e R s m args below meth c H locs cells slots Q g) D a sio cI cR cS m (am_mx k) A s.heap (pc) (lv) (.int x :: st) (G) := by
  obtain ⟨hx, hb, hml, hown, hts, hK, hE, hA, hfr, hlo, hce, hsl, hap, hsio⟩ := C
  intro hL ls H locs hP hS hl
  have kk := kk hL ls H locs hP hS hl
  by_cases h : x.toInt < lo ∨ hi < x.toInt
  · have e : am_sw ((pc : Int) + d) lo hi (offs.map fun t => (pc : Int) + t) x = (pc : Int) + d := if_pos h
    rw [e] at kk h0
    exact lv_tableOut hx hb hd h (Int.toNat_of_nonneg h0).symm kk
  · have hlt := hsz h
    have e : am_sw ((pc : Int) + d) lo hi (offs.map fun t => (pc : Int) + t) x = (pc : Int) + offs[(x.toInt - lo).toNat] := by
      unfold am_sw
      rw [if_neg h, List.getD_eq_getElem?_getD]
      simp [hlt]
    rw [e] at kk h0
    exact lv_tableIn hx hb hd (fun q => h (Or.inl q)) (fun q => h (Or.inr q)) (Array.getElem?_eq_getElem hlt) (Int.toNat_of_nonneg h0).symm kk
end ASR
end
section
/-! ===== fields, arrays, the JDK's own calls: the small machine's step is the machine's ===== -/
theorem am_lookup_mem {β : Type} {q : Nat × Nat} {v : β} : ∀ (l : List ((Nat × Nat) × β)), l.lookup q = some v → (q, v) ∈ l
  | [], h => by cases h
  | (q', v') :: l, h => by
    rw [List.lookup_cons] at h
    by_cases hq : q == q'
    · rw [hq] at h
      have e : q = q' := eq_of_beq hq
      cases h
      rw [e]
      exact List.mem_cons_self
    · rw [Bool.not_eq_true] at hq
      rw [hq] at h
      exact List.mem_cons_of_mem _ (am_lookup_mem l h)
def am_N (ci : Nat) : Nat := match ci with
  | 0 => 3
  | 1 => 6
  | 2 => 4
  | 3 => 13
  | 4 => 7
  | _ => 23
def am_tyv (ci : Nat) : Nat → FieldType := match ci with
  | 0 => tyX0
  | 1 => tyX1
  | 2 => tyX2
  | 3 => tyX3
  | 4 => tyX4
  | _ => tyX5
theorem am_six {P : Nat → Prop} (h0 : P 0) (h1 : P 1) (h2 : P 2) (h3 : P 3) (h4 : P 4) (h5 : P 5) {ci : Nat} (h : ci < 6) : P ci := by
  rcases (by omega : ci = 0 ∨ ci = 1 ∨ ci = 2 ∨ ci = 3 ∨ ci = 4 ∨ ci = 5) with rfl | rfl | rfl | rfl | rfl | rfl <;> assumption
theorem am_cl_ok {ci : Nat} (h : ci < 6) : vwCl[ci]? = some (am_cn ci, am_T ci, am_N ci) := am_six (P := fun ci => vwCl[ci]? = some (am_cn ci, am_T ci, am_N ci)) rfl rfl rfl rfl rfl rfl h
theorem am_ty_ok {ci : Nat} (h : ci < 6) : ∀ k, k < am_N ci → parseFieldDescriptor (am_T ci k).2.2.1 = some (am_tyv ci k) := am_six (P := fun ci => ∀ k, k < am_N ci → parseFieldDescriptor (am_T ci k).2.2.1 = some (am_tyv ci k)) tyX0_ok tyX1_ok tyX2_ok tyX3_ok tyX4_ok tyX5_ok h
theorem am_nm_ok {ci : Nat} (h : ci < 6) : ∀ a, a < am_N ci → ∀ b, b < am_N ci → a ≠ b → (am_T ci a).2.1 ≠ (am_T ci b).2.1 := am_six (P := fun ci => ∀ a, a < am_N ci → ∀ b, b < am_N ci → a ≠ b → (am_T ci a).2.1 ≠ (am_T ci b).2.1) nmX0 nmX1 nmX2 nmX3 nmX4 nmX5 h
theorem am_in_ok {ci : Nat} (h : ci < 6) : ∀ w ∈ u_ws (am_cn ci) (am_T ci) (am_N ci), w ∈ wsL_law := am_six (P := fun ci => ∀ w ∈ u_ws (am_cn ci) (am_T ci) (am_N ci), w ∈ wsL_law) (am_uws 0 (by decide)) (am_uws 1 (by decide)) (am_uws 2 (by decide)) (am_uws 3 (by decide)) (am_uws 4 (by decide)) (am_uws 5 (by decide)) h
theorem am_own_ok : ∀ ci, ci < 6 → ∀ k, k < am_N ci → (am_T ci k).1 = am_cn ci := by decide +kernel
/-- the shapes' check -/
def am_shok (o : Nat) : Bool := match am_sh o with
  | [0, _] => true
  | 1 :: ci :: fs => decide (ci < 6) && decide (fs.length = am_N ci) && fs.all (fun x => decide (x < 501)) && (List.range fs.length).all (fun i => decide (fs[i]? = some 0 → (am_T ci i).2.2.2 = false ∧ am_tyv ci i = if am_isz (32 * ci + i) = true then .boolean else .int))
  | 2 :: c :: rs => decide (c < 2) && rs.all (fun x => decide (x < 500)) && decide (rs.length < 100)
  | _ => false
theorem am_shok_all : ∀ o, o < 72 → am_shok o = true := by decide +kernel
theorem am_sh_obj {o ci : Nat} {fs : List Nat} (h : am_sh o = 1 :: ci :: fs) : o < 72 ∧ ci < 6 ∧ fs.length = am_N ci ∧ (∀ x ∈ fs, x < 501) ∧ ∀ i, fs[i]? = some 0 → (am_T ci i).2.2.2 = false ∧ am_tyv ci i = if am_isz (32 * ci + i) = true then .boolean else .int := by
  have ho : o < 72 := am_sh_lt (by rw [h]; exact List.cons_ne_nil _ _)
  have h1 := am_shok_all o ho
  unfold am_shok at h1
  rw [h] at h1
  simp only [Bool.and_eq_true, decide_eq_true_eq, List.all_eq_true, List.mem_range] at h1
  obtain ⟨⟨⟨a1, a2⟩, a3⟩, a4⟩ := h1
  exact ⟨ho, a1, a2, a3, fun i hi => a4 i (List.getElem?_eq_some_iff.mp hi).1 hi⟩
theorem am_sh_ref {o c : Nat} {rs : List Nat} (h : am_sh o = 2 :: c :: rs) : o < 72 ∧ c < 2 ∧ (∀ x ∈ rs, x < 500) := by
  have ho : o < 72 := am_sh_lt (by rw [h]; exact List.cons_ne_nil _ _)
  have h1 := am_shok_all o ho
  unfold am_shok at h1
  rw [h] at h1
  simp only [Bool.and_eq_true, decide_eq_true_eq, List.all_eq_true] at h1
  exact ⟨ho, h1.1.1, h1.1.2⟩
theorem am_sh_arr {o n : Nat} (h : am_sh o = [0, n]) : o < 72 := am_sh_lt (by rw [h]; exact List.cons_ne_nil _ _)
theorem am_cell_obj {a : Nat → Nat} {cI cR cS : ClassId} {G : GG} {o ci : Nat} {fs : List Nat} (h : am_sh o = 1 :: ci :: fs) : am_cell a cI cR cS G o = .inr (ci, am_flds a (G o) 0 fs) := by
  unfold am_cell; rw [h]; first | done | rfl
theorem am_cell_arr {a : Nat → Nat} {cI cR cS : ClassId} {G : GG} {o n : Nat} (h : am_sh o = [0, n]) : am_cell a cI cR cS G o = .inl (cI, n, .inl (G o)) := by
  unfold am_cell; rw [h]; first | done | rfl
theorem am_cell_ref {a : Nat → Nat} {cI cR cS : ClassId} {G : GG} {o c : Nat} {rs : List Nat} (h : am_sh o = 2 :: c :: rs) : am_cell a cI cR cS G o = .inl (if c = 0 then cR else cS, rs.length, .inr (.inr (.inr (.inr (fun i => (rs[i]?).map a))))) := by
  unfold am_cell; rw [h]; first | done | rfl
theorem am_sum {mv : Value → Value} (hc : ∀ v, (mv v).category ≤ 2) : ∀ (st : List Value), ((st.map mv).map fun v => v.category).sum ≤ 2 * st.length
  | [] => Nat.le_refl 0
  | v :: st => by
    have h1 := am_sum hc st
    have h2 := hc v
    simp only [List.map_cons, List.sum_cons, List.length_cons]
    omega
theorem am_cat2 {a : Nat → Nat} {sio : Value} (hs : sio.category = 1) (v : Value) : (am_v a sio v).category ≤ 2 := by
  rw [am_v_cat hs]
  cases v <;> first | exact Nat.le_refl _ | exact Nat.le_of_ble_eq_true rfl
theorem am_inb {i : Int32} {n : Nat} (h : ¬ (i < 0 ∨ n ≤ i.toNatClampNeg)) : vp_in i n := h
section ASH
variable {p : Program} {l : Launch} {e : Env} {R : Room} {s : State} {m : MethodId} {args : Array Value} {below : List Frame} {meth : Method} {c : Code} {cells slots : Nat} {Q : State → Prop}
variable {a : Nat → Nat} {sio : Value} {X : AmX} {cI cR cS : ClassId} {D : va_G} {k : Nat} {A : Nat → Prop} {pc : Nat} {lv : LV} {st : List Value} {G : GG} {r : List Instr}
theorem as_getfield (C : am_C a sio X cI cR cS D k p R s m args c A cells slots) {j f o pos : Nat} {v : Value} (hd : decode (am_cc k) pc = .ok (.getfield j, 3)) (hq : am_fl.lookup (am_own k, j) = some (f, pos)) (hg : am_gf G o f = some v) (kk : am_Wt (fun H locs g => W p l e R s m args below meth c H locs cells slots Q g) D a sio cI cR cS m (am_mx k) A s.heap (pc + 3) (lv) (v :: st) (G)) : am_Wt (fun H locs g => W p l e R s m args below meth c H locs cells slots Q g) D a sio cI cR cS m (am_mx k) A s.heap (pc) (lv) (.ref o :: st) (G) := by
  obtain ⟨hx, hb, hml, hown, hts, hK, hE, hA, hfr, hlo, hce, hsl, hap, hsio⟩ := C
  have hm := am_lookup_mem _ hq
  have hf2 := am_fl_ok2 _ hm
  unfold am_gf at hg
  intro hL ls H locs hP hS hl
  have kk := kk hL ls H locs hP hS hl
  by_cases h1 : f = 1000
  · rw [if_pos h1] at hg
    by_cases h2 : 100 ≤ o ∧ o < 111
    · rw [if_pos h2] at hg
      cases hg
      have h3 := ((hE.2.2.2.2.2.2.1).1 (o - 100) (by omega)).2.2.1
      simp only [show 100 + (o - 100) = o by omega, show 200 + (o - 100) = o + 100 by omega] at h3
      rw [List.map_cons, am_v_ref (by omega)] at kk
      rw [List.map_cons, am_v_ref (by omega)]
      exact vk_getf hx hb h3 hS hown (am_word hts (hf2.1 h1)) (fun _ h => h) hd kk
    · rw [if_neg h2] at hg; cases hg
  rw [if_neg h1] at hg
  by_cases h2 : f = 1001
  · rw [if_pos h2] at hg
    by_cases h3 : 100 ≤ o ∧ o < 111
    · rw [if_pos h3] at hg
      cases hg
      have h4 := ((hE.2.2.2.2.2.2.1).1 (o - 100) (by omega)).2.1
      simp only [show 100 + (o - 100) = o by omega] at h4
      rw [List.map_cons, am_v_ref (by omega)]
      exact vk_getf hx hb h4 hS hown (am_word hts (hf2.2 h2)) (fun _ h => h) hd kk
    · rw [if_neg h3] at hg; cases hg
  rw [if_neg h2] at hg
  split at hg
  next ci fs hsh =>
    obtain ⟨ho, hci, hlen, hrefs, -⟩ := am_sh_obj hsh
    split at hg
    next hcf =>
      have hf1 : f < 1000 := by omega
      have hlink := am_word hts (am_fl_ok _ hm hf1)
      rw [← hcf] at hlink
      have hcell : (am_W a cI cR cS G)[o]? = some (a o, .inr (ci, am_flds a (G o) 0 fs)) := by rw [am_W_get ho, am_cell_obj hsh]
      have hget := am_flds_get a (G o) fs 0 (f % 32)
      have hlt : f % 32 < am_N ci := by
        rw [← hlen]
        split at hg
        next h => exact (List.getElem?_eq_some_iff.mp h).1
        next h => exact (List.getElem?_eq_some_iff.mp h).1
        next => cases hg
      have hv : (am_flds a (G o) 0 fs)[f % 32]? = some (am_v a sio v) := by
        rw [hget]
        split at hg
        next h =>
          rw [h]; cases hg
          simp [am_v]
        next j' h =>
          rw [h]; cases hg
          have := hrefs _ (List.mem_of_getElem? h)
          rw [am_v_ref (by omega)]; rfl
        next => cases hg
      rw [List.map_cons, am_v_ref (by omega)]
      exact va_get hx hb hts (am_in_ok hci) hown hK hP o hcell (am_cl_ok hci) (f % 32) hlt hlink (fun x h => by rw [am_own_ok ci hci _ hlt] at h; exact h) hv hd kk
    next => cases hg
  next => cases hg
theorem as_putfield (C : am_C a sio X cI cR cS D k p R s m args c A cells slots) {j f o pos : Nat} {x : Int32} {G1 : GG} (hd : decode (am_cc k) pc = .ok (.putfield j, 3)) (hq : am_fl.lookup (am_own k, j) = some (f, pos)) (hg : am_pf G o f x = some G1) (kk : am_Wt (fun H locs g => W p l e R s m args below meth c H locs cells slots Q g) D a sio cI cR cS m (am_mx k) A s.heap (pc + 3) (lv) (st) (G1)) : am_Wt (fun H locs g => W p l e R s m args below meth c H locs cells slots Q g) D a sio cI cR cS m (am_mx k) A s.heap (pc) (lv) (.int x :: .ref o :: st) (G) := by
  obtain ⟨hx, hb, hml, hown, hts, hK, hE, hA, hfr, hlo, hce, hsl, hap, hsio⟩ := C
  have hm := am_lookup_mem _ hq
  unfold am_pf at hg
  intro hL ls H locs hP hS hl
  split at hg
  next ci fs hsh =>
    obtain ⟨ho, hci, hlen, hrefs, hz⟩ := am_sh_obj hsh
    split at hg
    next hcf =>
      split at hg
      next hb01 =>
        cases hg
        have hf1 : f < 1000 := by omega
        have hlink := am_word hts (am_fl_ok _ hm hf1)
        rw [← hcf.1] at hlink
        have hcell : (am_W a cI cR cS G)[o]? = some (a o, .inr (ci, am_flds a (G o) 0 fs)) := by rw [am_W_get ho, am_cell_obj hsh]
        have hlt : f % 32 < am_N ci := by rw [← hlen]; exact (List.getElem?_eq_some_iff.mp hcf.2).1
        obtain ⟨hfin, hty⟩ := hz _ hcf.2
        have hd1 := am_ty_ok hci _ hlt
        have hfz : 32 * ci + f % 32 = f := by omega
        rw [hfz] at hty
        have hnf : narrow (am_tyv ci (f % 32)) (.int x) = .int x ∧ fits (am_tyv ci (f % 32)) (.int x) = true := by
          rw [hty]
          by_cases hzz : am_isz f = true
          · rw [if_pos hzz]
            rcases hb01 hzz with rfl | rfl <;> exact ⟨rfl, rfl⟩
          · rw [if_neg hzz]; exact ⟨rfl, rfl⟩
        have hset : (am_W a cI cR cS G).set o (a o, .inr (ci, (am_flds a (G o) 0 fs).set (f % 32) (.int x))) = am_W a cI cR cS (gset G o (upd (G o) (f % 32) x)) := by
          refine am_W_set ho ?_
          rw [am_cell_obj hsh, am_flds_set a (G o) x fs 0 (f % 32) hcf.2, Nat.zero_add, show gset G o (upd (G o) (f % 32) x) o = upd (G o) (f % 32) x from if_pos rfl]
        rw [List.map_cons, List.map_cons, am_v_ref (by omega)]
        refine va_put hx hb hts (am_in_ok hci) (am_tyv ci) (am_ty_ok hci) (am_nm_ok hci) hown hK hP (am_W_D hap) hS o hcell (am_cl_ok hci) (f % 32) hlt hlink (fun z h => by rw [am_own_ok ci hci _ hlt] at h; exact h) hfin hd1 hnf.1 hnf.2 (by rw [am_flds_len, hlen]; exact hlt) hd (fun H1 locs1 h1 _ h3 => ?_)
        rw [show am_v a sio (Value.int x) = .int x from rfl, hset] at h1
        exact kk hL ls H1 locs1 h1 h3 hl
      next => cases hg
    next => cases hg
  next => cases hg
theorem as_getstatic (C : am_C a sio X cI cR cS D k p R s m args c A cells slots) {j q pos : Nat} (hd : decode (am_cc k) pc = .ok (.getstatic j, 3)) (hq : am_slk.lookup (am_own k, j) = some (q, pos)) (kk : am_Wt (fun H locs g => W p l e R s m args below meth c H locs cells slots Q g) D a sio cI cR cS m (am_mx k) A s.heap (pc + 3) (lv) ((if q = 0 then .ref 300 else if q = 1 then .int (nI 1) else .ref 500) :: st) (G)) : am_Wt (fun H locs g => W p l e R s m args below meth c H locs cells slots Q g) D a sio cI cR cS m (am_mx k) A s.heap (pc) (lv) (st) (G) := by
  obtain ⟨hx, hb, hml, hown, hts, hK, hE, hA, hfr, hlo, hce, hsl, hap, hsio⟩ := C
  have hm := am_slk_ok _ (am_lookup_mem _ hq)
  intro hL ls H locs hP hS hl
  have kk := kk hL ls H locs hP hS hl
  have hq3 : q < 3 := hm.2.2.2
  rcases (by omega : q = 0 ∨ q = 1 ∨ q = 2) with rfl | rfl | rfl
  · exact va_gets hx hb hE.2.2.1 hS hown (am_word hts (hm.1 rfl)) (fun _ h => h) hd kk
  · exact va_gets hx hb hE.2.2.2.2.1 hS hown (am_word hts (hm.2.1 rfl)) (fun _ h => h) hd kk
  · exact va_gets hx hb hE.2.2.2.2.2.1 hS hown (am_word hts (hm.2.2.1 rfl)) (fun _ h => h) hd kk
theorem as_iaload (C : am_C a sio X cI cR cS D k p R s m args c A cells slots) {o : Nat} {i x : Int32} (hd : decode (am_cc k) pc = .ok (.iaload, 1)) (hg : am_ald X G o i = some x) (kk : am_Wt (fun H locs g => W p l e R s m args below meth c H locs cells slots Q g) D a sio cI cR cS m (am_mx k) A s.heap (pc + 1) (lv) (.int x :: st) (G)) : am_Wt (fun H locs g => W p l e R s m args below meth c H locs cells slots Q g) D a sio cI cR cS m (am_mx k) A s.heap (pc) (lv) (.int i :: .ref o :: st) (G) := by
  obtain ⟨hx, hb, hml, hown, hts, hK, hE, hA, hfr, hlo, hce, hsl, hap, hsio⟩ := C
  unfold am_ald at hg
  intro hL ls H locs hP hS hl
  have kk := kk hL ls H locs hP hS hl
  split at hg
  next n hsh =>
    have ho := am_sh_arr hsh
    split at hg
    next => cases hg
    next hin =>
      cases hg
      have hcell : (am_W a cI cR cS G)[o]? = some (a o, .inl (cI, n, .inl (G o))) := by rw [am_W_get ho, am_cell_arr hsh]
      rw [List.map_cons, List.map_cons, am_v_ref (by omega)]
      exact va_iald hx hb hK hP o 0 hcell rfl (am_inb hin) hd kk
  next =>
    split at hg
    next h3 =>
      subst h3
      split at hg
      next => cases hg
      next hin =>
        cases hg
        rw [List.map_cons, List.map_cons, am_v_ref (by omega)]
        exact va_ti hx hb hE.2.2.2.1 hS (am_inb hin) rfl hd kk
    next =>
      split at hg
      next h4 =>
        subst h4
        split at hg
        next => cases hg
        next hin =>
          cases hg
          rw [List.map_cons, List.map_cons, am_v_ref (by omega)]
          exact va_ti hx hb hE.2.2.2.2.2.2.2 hS (am_inb hin) rfl hd kk
      next => cases hg
theorem as_baload (C : am_C a sio X cI cR cS D k p R s m args c A cells slots) {o : Nat} {i x : Int32} (hd : decode (am_cc k) pc = .ok (.baload, 1)) (hg : am_bld o i = some x) (kk : am_Wt (fun H locs g => W p l e R s m args below meth c H locs cells slots Q g) D a sio cI cR cS m (am_mx k) A s.heap (pc + 1) (lv) (.int x :: st) (G)) : am_Wt (fun H locs g => W p l e R s m args below meth c H locs cells slots Q g) D a sio cI cR cS m (am_mx k) A s.heap (pc) (lv) (.int i :: .ref o :: st) (G) := by
  obtain ⟨hx, hb, hml, hown, hts, hK, hE, hA, hfr, hlo, hce, hsl, hap, hsio⟩ := C
  unfold am_bld at hg
  intro hL ls H locs hP hS hl
  have kk := kk hL ls H locs hP hS hl
  split at hg
  next ho =>
    split at hg
    next => cases hg
    next hin =>
      obtain rfl := Option.some.inj hg
      have h3 := ((hE.2.2.2.2.2.2.1).1 (o - 200) (by omega)).2.2.2
      simp only [show 200 + (o - 200) = o by omega] at h3
      rw [List.map_cons, List.map_cons, am_v_ref (by omega)]
      exact va_tb hx hb h3 hS (am_inb hin) rfl hd kk
  next => cases hg
theorem as_aaload (C : am_C a sio X cI cR cS D k p R s m args c A cells slots) {o x : Nat} {i : Int32} (hd : decode (am_cc k) pc = .ok (.aaload, 1)) (hg : am_qld o i = some x) (kk : am_Wt (fun H locs g => W p l e R s m args below meth c H locs cells slots Q g) D a sio cI cR cS m (am_mx k) A s.heap (pc + 1) (lv) (.ref x :: st) (G)) : am_Wt (fun H locs g => W p l e R s m args below meth c H locs cells slots Q g) D a sio cI cR cS m (am_mx k) A s.heap (pc) (lv) (.int i :: .ref o :: st) (G) := by
  obtain ⟨hx, hb, hml, hown, hts, hK, hE, hA, hfr, hlo, hce, hsl, hap, hsio⟩ := C
  unfold am_qld at hg
  intro hL ls H locs hP hS hl
  have kk := kk hL ls H locs hP hS hl
  split at hg
  next c0 rs hsh =>
    obtain ⟨ho, hc, hr⟩ := am_sh_ref hsh
    split at hg
    next => cases hg
    next hi0 =>
      have hlt := (List.getElem?_eq_some_iff.mp hg).1
      have hx5 := hr _ (List.mem_of_getElem? hg)
      have hcell : (am_W a cI cR cS G)[o]? = some (a o, .inl (if c0 = 0 then cR else cS, rs.length, .inr (.inr (.inr (.inr (fun i => (rs[i]?).map a)))))) := by rw [am_W_get ho, am_cell_ref hsh]
      have hv : va_rf ((rs[i.toNatClampNeg]?).map a) = .ref (a x) := by rw [hg]; rfl
      rw [List.map_cons, List.map_cons, am_v_ref (by omega)]
      rw [List.map_cons, am_v_ref hx5, ← hv] at kk
      have hin : vp_in i rs.length := by
        rintro (z | z)
        · exact hi0 z
        · omega
      rcases (by omega : c0 = 0 ∨ c0 = 1) with rfl | rfl
      · exact va_aldq hx hb hK hP o 1 hcell rfl hin hd kk
      · exact va_aldq hx hb hK hP o 2 hcell rfl hin hd kk
  next => cases hg
theorem as_iastore (C : am_C a sio X cI cR cS D k p R s m args c A cells slots) {o : Nat} {i x : Int32} {G1 : GG} (hd : decode (am_cc k) pc = .ok (.iastore, 1)) (hg : am_ast G o i x = some G1) (kk : am_Wt (fun H locs g => W p l e R s m args below meth c H locs cells slots Q g) D a sio cI cR cS m (am_mx k) A s.heap (pc + 1) (lv) (st) (G1)) : am_Wt (fun H locs g => W p l e R s m args below meth c H locs cells slots Q g) D a sio cI cR cS m (am_mx k) A s.heap (pc) (lv) (.int x :: .int i :: .ref o :: st) (G) := by
  obtain ⟨hx, hb, hml, hown, hts, hK, hE, hA, hfr, hlo, hce, hsl, hap, hsio⟩ := C
  unfold am_ast at hg
  intro hL ls H locs hP hS hl
  split at hg
  next n hsh =>
    have ho := am_sh_arr hsh
    split at hg
    next => cases hg
    next hin =>
      cases hg
      have hcell : (am_W a cI cR cS G)[o]? = some (a o, .inl (cI, n, .inl (G o))) := by rw [am_W_get ho, am_cell_arr hsh]
      have hset : (am_W a cI cR cS G).set o (a o, .inl (cI, n, .inl (upd (G o) i.toNatClampNeg x))) = am_W a cI cR cS (gset G o (upd (G o) i.toNatClampNeg x)) := by
        refine am_W_set ho ?_
        rw [am_cell_arr hsh]
        rw [show gset G o (upd (G o) i.toNatClampNeg x) o = upd (G o) i.toNatClampNeg x from if_pos rfl]
      rw [List.map_cons, List.map_cons, List.map_cons, am_v_ref (by omega)]
      refine va_iast hx hb hK hP (am_W_D hap) hS o 0 hcell rfl (am_inb hin) hd (fun H1 locs1 h1 _ h3 => ?_)
      rw [hset] at h1
      exact kk hL ls H1 locs1 h1 h3 hl
  next => cases hg
theorem as_arraylength (C : am_C a sio X cI cR cS D k p R s m args c A cells slots) {o n : Nat} (hd : decode (am_cc k) pc = .ok (.arraylength, 1)) (hg : am_len X o = some n) (kk : am_Wt (fun H locs g => W p l e R s m args below meth c H locs cells slots Q g) D a sio cI cR cS m (am_mx k) A s.heap (pc + 1) (lv) (.int (nI n) :: st) (G)) : am_Wt (fun H locs g => W p l e R s m args below meth c H locs cells slots Q g) D a sio cI cR cS m (am_mx k) A s.heap (pc) (lv) (.ref o :: st) (G) := by
  obtain ⟨hx, hb, hml, hown, hts, hK, hE, hA, hfr, hlo, hce, hsl, hap, hsio⟩ := C
  unfold am_len at hg
  intro hL ls H locs hP hS hl
  have kk := kk hL ls H locs hP hS hl
  split at hg
  next n' hsh =>
    have ho := am_sh_arr hsh
    cases hg
    have hcell : (am_W a cI cR cS G)[o]? = some (a o, .inl (cI, n, .inl (G o))) := by rw [am_W_get ho, am_cell_arr hsh]
    rw [List.map_cons, am_v_ref (by omega)]
    exact va_alen hx hb hK hP o 0 hcell (ty := .int) rfl rfl hd kk
  next c0 rs hsh =>
    obtain ⟨ho, hc, hr⟩ := am_sh_ref hsh
    cases hg
    have hcell : (am_W a cI cR cS G)[o]? = some (a o, .inl (if c0 = 0 then cR else cS, rs.length, .inr (.inr (.inr (.inr (fun i => (rs[i]?).map a)))))) := by rw [am_W_get ho, am_cell_ref hsh]
    rw [List.map_cons, am_v_ref (by omega)]
    rcases (by omega : c0 = 0 ∨ c0 = 1) with rfl | rfl
    · exact va_alen hx hb hK hP o 1 hcell (ty := .object RX0) rfl rfl hd kk
    · exact va_alen hx hb hK hP o 2 hcell (ty := .object "java/lang/String") rfl rfl hd kk
  next =>
    split at hg
    next h4 =>
      subst h4
      cases hg
      rw [List.map_cons, am_v_ref (by omega)]
      exact va_tlen hx hb hE.2.2.2.2.2.2.2 hS rfl hd kk
    next =>
      split at hg
      next ho =>
        obtain rfl := Option.some.inj hg
        have h3 := ((hE.2.2.2.2.2.2.1).1 (o - 200) (by omega)).2.2.2
        simp only [show 200 + (o - 200) = o by omega] at h3
        rw [List.map_cons, am_v_ref (by omega)]
        exact va_tlen hx hb h3 hS rfl hd kk
      next => cases hg
theorem as_copy (C : am_C a sio X cI cR cS D k p R s m args c A cells slots) {j pos o1 o2 : Nat} {sp dp n : Int32} {G1 : GG} (hd : decode (am_cc k) pc = .ok (.invokestatic j, 3)) (hq : am_alk.lookup (am_own k, j) = some (pos, 999)) (hfr1 : 1 ≤ am_fr k) (hlo1 : 60 ≤ am_lo k) (hlen : st.length ≤ 4) (hg : am_cpy G o1 sp o2 dp n = some G1) (kk : am_Wt (fun H locs g => W p l e R s m args below meth c H locs cells slots Q g) D a sio cI cR cS m (am_mx k) A s.heap (pc + 3) (lv) (st) (G1)) : am_Wt (fun H locs g => W p l e R s m args below meth c H locs cells slots Q g) D a sio cI cR cS m (am_mx k) A s.heap (pc) (lv) (.int n :: .int dp :: .ref o2 :: .int sp :: .ref o1 :: st) (G) := by
  obtain ⟨hx, hb, hml, hown, hts, hK, hE, hA, hfr, hlo, hce, hsl, hap, hsio⟩ := C
  have hlink := am_word hts (am_alk_ok _ (am_lookup_mem _ hq))
  unfold am_cpy at hg
  intro hL ls H locs hP hS hl
  split at hg
  next n1 n2 hs1 hs2 =>
    have ho1 := am_sh_arr hs1
    have ho2 := am_sh_arr hs2
    split at hg
    next hcond =>
      cases hg
      obtain ⟨b1, b2, b3, b4, b5⟩ := hcond
      have hcell1 : (am_W a cI cR cS G)[o1]? = some (a o1, .inl (cI, n1, .inl (G o1))) := by rw [am_W_get ho1, am_cell_arr hs1]
      have hcell2 : (am_W a cI cR cS G)[o2]? = some (a o2, .inl (cI, n2, .inl (G o2))) := by rw [am_W_get ho2, am_cell_arr hs2]
      have hset : (am_W a cI cR cS G).set o2 (a o2, .inl (cI, n2, .inl (va_cpy (G o1) (G o2) sp.toNatClampNeg dp.toNatClampNeg n.toNatClampNeg))) = am_W a cI cR cS (gset G o2 (va_cpy (G o1) (G o2) sp.toNatClampNeg dp.toNatClampNeg n.toNatClampNeg)) := by
        refine am_W_set ho2 ?_
        rw [am_cell_arr hs2]
        rw [show gset G o2 (va_cpy (G o1) (G o2) sp.toNatClampNeg dp.toNatClampNeg n.toNatClampNeg) o2 = va_cpy (G o1) (G o2) sp.toNatClampNeg dp.toNatClampNeg n.toNatClampNeg from if_pos rfl]
      have hsum := am_sum (am_cat2 (a := a) hsio) st
      have hnw : nativeFrameWords "java/lang/System" "arraycopy" 5 ≤ 41 := by decide +kernel
      simp only [List.map_cons]
      rw [am_v_ref (show o1 < 500 by omega), am_v_ref (show o2 < 500 by omega)]
      refine va_copyi hx hb (hml.trans hl.1.symm) hown hlink (am_word hts am_w_nat.1) (am_word hts am_w_nat.2.1) (am_word hts am_w_nat.2.2) hK hP (am_W_D hap) hS o1 o2 0 0 hcell1 hcell2 rfl rfl rfl b1 b2 b3 b4 b5 (fun _ _ => rfl) (by omega) (by omega) hd (fun H1 locs1 h1 _ h3 => ?_)
      rw [hset] at h1
      exact kk hL ls H1 locs1 h1 h3 hl
    next => cases hg
  next => cases hg
theorem as_min (C : am_C a sio X cI cR cS D k p R s m args c A cells slots) {j pos : Nat} {x y : Int32} (hd : decode (am_cc k) pc = .ok (.invokestatic j, 3)) (hq : am_alk.lookup (am_own k, j) = some (pos, 996)) (hfr1 : 1 ≤ am_fr k) (hlo1 : 60 ≤ am_lo k) (hlen : st.length ≤ 4) (kk : am_Wt (fun H locs g => W p l e R s m args below meth c H locs cells slots Q g) D a sio cI cR cS m (am_mx k) A s.heap (pc + 3) (lv) (.int (if y < x then y else x) :: st) (G)) : am_Wt (fun H locs g => W p l e R s m args below meth c H locs cells slots Q g) D a sio cI cR cS m (am_mx k) A s.heap (pc) (lv) (.int y :: .int x :: st) (G) := by
  obtain ⟨hx, hb, hml, hown, hts, hK, hE, hA, hfr, hlo, hce, hsl, hap, hsio⟩ := C
  have hlink := am_word hts (am_alk_ok _ (am_lookup_mem _ hq))
  intro hL ls H locs hP hS hl
  have hsum := am_sum (am_cat2 (a := a) hsio) st
  exact va_mmin hx hb (hml.trans hl.1.symm) hown hlink (hts _ am_w_min.1) (hts _ am_w_min.2.2) (hts _ am_w_min.2.1) (by omega) (by omega) hce hsl hd (kk hL ls H locs hP hS hl)
theorem as_max (C : am_C a sio X cI cR cS D k p R s m args c A cells slots) {j pos : Nat} {x y : Int32} (hd : decode (am_cc k) pc = .ok (.invokestatic j, 3)) (hq : am_alk.lookup (am_own k, j) = some (pos, 997)) (hfr1 : 1 ≤ am_fr k) (hlo1 : 60 ≤ am_lo k) (hlen : st.length ≤ 4) (kk : am_Wt (fun H locs g => W p l e R s m args below meth c H locs cells slots Q g) D a sio cI cR cS m (am_mx k) A s.heap (pc + 3) (lv) (.int (if x < y then y else x) :: st) (G)) : am_Wt (fun H locs g => W p l e R s m args below meth c H locs cells slots Q g) D a sio cI cR cS m (am_mx k) A s.heap (pc) (lv) (.int y :: .int x :: st) (G) := by
  obtain ⟨hx, hb, hml, hown, hts, hK, hE, hA, hfr, hlo, hce, hsl, hap, hsio⟩ := C
  have hlink := am_word hts (am_alk_ok _ (am_lookup_mem _ hq))
  intro hL ls H locs hP hS hl
  have hsum := am_sum (am_cat2 (a := a) hsio) st
  exact va_mmax hx hb (hml.trans hl.1.symm) hown hlink (hts _ am_w_max.1) (hts _ am_w_max.2.2) (hts _ am_w_max.2.1) (by omega) (by omega) hce hsl hd (kk hL ls H locs hP hS hl)
theorem as_abs (C : am_C a sio X cI cR cS D k p R s m args c A cells slots) {j pos : Nat} {x y : Int32} (hd : decode (am_cc k) pc = .ok (.invokestatic j, 3)) (hq : am_alk.lookup (am_own k, j) = some (pos, 998)) (hfr1 : 1 ≤ am_fr k) (hlo1 : 60 ≤ am_lo k) (hlen : st.length ≤ 4) (kk : am_Wt (fun H locs g => W p l e R s m args below meth c H locs cells slots Q g) D a sio cI cR cS m (am_mx k) A s.heap (pc + 3) (lv) (.int (if nI 0 ≤ x then x else nI 0 - x) :: st) (G)) : am_Wt (fun H locs g => W p l e R s m args below meth c H locs cells slots Q g) D a sio cI cR cS m (am_mx k) A s.heap (pc) (lv) (.int x :: st) (G) := by
  obtain ⟨hx, hb, hml, hown, hts, hK, hE, hA, hfr, hlo, hce, hsl, hap, hsio⟩ := C
  have hlink := am_word hts (am_alk_ok _ (am_lookup_mem _ hq))
  intro hL ls H locs hP hS hl
  have hsum := am_sum (am_cat2 (a := a) hsio) st
  exact va_mabs hx hb (hml.trans hl.1.symm) hown hlink (hts _ am_w_abs.1) (hts _ am_w_abs.2.2) (hts _ am_w_abs.2.1) (by omega) (by omega) hce hsl hd (kk hL ls H locs hP hS hl)
end ASH
end
section
/-! ===== one step of the small machine is a step of the machine: printed by program ===== -/
theorem am_lookup_memN {β : Type} {q : Nat} {v : β} : ∀ (l : List (Nat × β)), l.lookup q = some v → (q, v) ∈ l
  | [], h => by cases h
  | (q', v') :: l, h => by
    rw [List.lookup_cons] at h
    by_cases hq : q == q'
    · rw [hq] at h
      have e : q = q' := eq_of_beq hq
      cases h
      rw [e]
      exact List.mem_cons_self
    · rw [Bool.not_eq_true] at hq
      rw [hq] at h
      exact List.mem_cons_of_mem _ (am_lookup_memN l h)
theorem am_blk_at {k b : Nat} (hk : am_okm k = true) : am_blk k b = [] ∨ am_at k b (am_blk k b) = true := by
  unfold am_blk
  cases hl : (am_tL.getD k []).lookup b with
  | none => exact Or.inl rfl
  | some ops => exact Or.inr (List.all_eq_true.mp hk (b, ops) (am_lookup_memN _ hl))
theorem am_at_dec {k pc : Nat} {i : Instr} {r : List Instr} (h : am_at k pc (i :: r) = true) : (∃ t : Int, i = .goto_w t ∧ t = (pc : Int)) ∨ ∃ (real : Instr) (len : Nat), decode (am_cc k) pc = .ok (real, len) ∧ am_res k pc real = some i ∧ am_ln real len = true ∧ am_ctl k i = true ∧ (am_term i = true ∨ am_at k (pc + len) r = true) := by
  unfold am_at at h
  split at h
  next t => exact Or.inl ⟨t, rfl, by simpa using h⟩
  next hg =>
    split at h
    next real len hd =>
      simp only [Bool.and_eq_true, Bool.or_eq_true, decide_eq_true_eq] at h
      exact Or.inr ⟨real, len, hd, h.1.1.1, h.1.1.2, h.1.2, h.2⟩
    next => cases h
section AMI
variable {X : AmX} {k : Nat} {r ops1 : List Instr} {lv lv1 : LV} {st st1 : List Value} {G G1 : GG}
theorem am_push_inv {v : Value} (h : am_push r lv st G v = some (.inl (ops1, lv1, st1, G1))) : r = ops1 ∧ lv = lv1 ∧ v :: st = st1 ∧ G = G1 := by
  unfold am_push at h
  cases h
  exact ⟨rfl, rfl, rfl, rfl⟩
theorem am_some_inv {r' : List Instr} {lv' : LV} {st' : List Value} {G' : GG} (h : (some (.inl (r', lv', st', G')) : AmR) = some (.inl (ops1, lv1, st1, G1))) : r' = ops1 ∧ lv' = lv1 ∧ st' = st1 ∧ G' = G1 := by
  cases h
  exact ⟨rfl, rfl, rfl, rfl⟩
theorem am_bin_inv {f : Int32 → Int32 → Int32} (h : am_bin f r lv st G = some (.inl (ops1, lv1, st1, G1))) : ∃ x y s, st = .int y :: .int x :: s ∧ r = ops1 ∧ lv = lv1 ∧ .int (f x y) :: s = st1 ∧ G = G1 := by
  unfold am_bin at h
  split at h
  next y x s => exact ⟨x, y, s, rfl, am_push_inv h⟩
  next => cases h
theorem am_binZ_inv {f : Int32 → Int32 → Int32} (h : am_binZ f r lv st G = some (.inl (ops1, lv1, st1, G1))) : ∃ x y s, st = .int y :: .int x :: s ∧ ¬ y = nI 0 ∧ r = ops1 ∧ lv = lv1 ∧ .int (f x y) :: s = st1 ∧ G = G1 := by
  unfold am_binZ at h
  split at h
  next y x s =>
    split at h
    next => cases h
    next hy => exact ⟨x, y, s, rfl, hy, am_push_inv h⟩
  next => cases h
theorem am_binL_inv {f : Int64 → Int64 → Int64} (h : am_binL f r lv st G = some (.inl (ops1, lv1, st1, G1))) : ∃ x y s, st = .long y :: .long x :: s ∧ r = ops1 ∧ lv = lv1 ∧ .long (f x y) :: s = st1 ∧ G = G1 := by
  unfold am_binL at h
  split at h
  next y x s => exact ⟨x, y, s, rfl, am_push_inv h⟩
  next => cases h
theorem am_un_inv {f : Int32 → Int32} (h : am_un f r lv st G = some (.inl (ops1, lv1, st1, G1))) : ∃ x s, st = .int x :: s ∧ r = ops1 ∧ lv = lv1 ∧ .int (f x) :: s = st1 ∧ G = G1 := by
  unfold am_un at h
  split at h
  next x s => exact ⟨x, s, rfl, am_push_inv h⟩
  next => cases h
theorem am_opt_inv {α : Type} {o : Option α} {f : α → AmR} {z : (List Instr × LV × List Value × GG) ⊕ ((Option Value × GG) ⊕ (Nat × List Value × LV × List Value))} (h : am_opt o f = some z) : ∃ x, o = some x ∧ f x = some z := by
  cases o with
  | none => cases h
  | some x => exact ⟨x, rfl, h⟩
theorem am_cst_inv {n : Int} (h : am_st X k (am_cst n) r lv st G = some (.inl (ops1, lv1, st1, G1))) : r = ops1 ∧ lv = lv1 ∧ .int (Int32.ofInt n) :: st = st1 ∧ G = G1 := by
  cases n with
  | ofNat n => exact am_push_inv h
  | negSucc n => exact am_push_inv h
end AMI
theorem am_mlk_lt : ∀ q ∈ am_mlk, q.2.1 < 500 := by decide +kernel
theorem am_nlk_lt : ∀ q ∈ am_nlk, q.2.1 < 500 := by decide +kernel
theorem am_ctl_sw {k : Nat} {d lo hi : Int} {offs : Array Int} (h : am_ctl k (.tableswitch d lo hi offs) = true) : 0 ≤ d ∧ (∀ z ∈ offs.toList, 0 ≤ z) ∧ hi - lo < (offs.size : Int) := by
  simp only [am_ctl, Bool.and_eq_true, decide_eq_true_eq, List.all_eq_true] at h
  exact ⟨h.1.1, h.1.2, h.2⟩
theorem am_ret_ninl {X : AmX} {k t : Nat} {r ops1 : List Instr} {lv lv1 : LV} {st st1 : List Value} {G G1 : GG} : ¬ am_st X k (.ret t) r lv st G = some (.inl (ops1, lv1, st1, G1)) := by
  intro h
  simp only [am_st] at h
  split at h
  · split at h <;> cases h
  · split at h <;> cases h
  · split at h <;> cases h
  · cases h
section AMS
variable {p : Program} {l : Launch} {e : Env} {R : Room} {s : State} {m : MethodId} {args : Array Value} {below : List Frame} {meth : Method} {c : Code} {cells slots : Nat} {Q : State → Prop}
variable {a : Nat → Nat} {sio : Value} {X : AmX} {cI cR cS : ClassId} {D : va_G} {k : Nat} {A : Nat → Prop} {pc : Nat} {lv lv1 : LV} {st st1 : List Value} {G G1 : GG} {i : Instr} {r ops1 : List Instr}
theorem am_step (C : am_C a sio X cI cR cS D k p R s m args c A cells slots) (hat : am_at k pc (i :: r) = true) (hst : am_st X k i r lv st G = some (.inl (ops1, lv1, st1, G1))) : ∃ pc1, (am_at k pc1 ops1 = true ∨ ops1 = am_blk k pc1) ∧ (am_Wt (fun H locs g => W p l e R s m args below meth c H locs cells slots Q g) D a sio cI cR cS m (am_mx k) A s.heap (pc1) (lv1) (st1) (G1) → am_Wt (fun H locs g => W p l e R s m args below meth c H locs cells slots Q g) D a sio cI cR cS m (am_mx k) A s.heap (pc) (lv) (st) (G)) := by
  rcases am_at_dec hat with ⟨t, rfl, rfl⟩ | ⟨real, len, hd, hres, hln, hctl, hr⟩
  · obtain ⟨rfl, rfl, rfl, rfl⟩ := am_some_inv hst
    exact ⟨_, Or.inr rfl, fun h => h⟩
  cases real with
  | iload j =>
    obtain rfl := Option.some.inj (show some (.iload j) = some i from hres)
    obtain rfl : len = 2 := eq_of_beq hln
    have hr := hr.resolve_left (fun z => by cases z)
    simp only [am_st] at hst
    split at hst
    next x hj =>
      obtain ⟨rfl, rfl, rfl, rfl⟩ := am_push_inv hst
      exact ⟨_, Or.inl hr, as_iload C hd hj⟩
    next => cases hst
  | istore j =>
    obtain rfl := Option.some.inj (show some (.istore j) = some i from hres)
    obtain rfl : len = 2 := eq_of_beq hln
    have hr := hr.resolve_left (fun z => by cases z)
    simp only [am_st] at hst
    split at hst
    next x s1 =>
      split at hst
      next ho =>
        obtain ⟨rfl, rfl, rfl, rfl⟩ := am_some_inv hst
        exact ⟨_, Or.inl hr, as_istore C hd ho⟩
      next => cases hst
    next => cases hst
  | iload_n j =>
    obtain rfl := Option.some.inj (show some (.iload j.val) = some i from hres)
    obtain rfl : len = 1 := eq_of_beq hln
    have hr := hr.resolve_left (fun z => by cases z)
    simp only [am_st] at hst
    split at hst
    next x hj =>
      obtain ⟨rfl, rfl, rfl, rfl⟩ := am_push_inv hst
      exact ⟨_, Or.inl hr, as_iload_n C hd hj⟩
    next => cases hst
  | istore_n j =>
    obtain rfl := Option.some.inj (show some (.istore j.val) = some i from hres)
    obtain rfl : len = 1 := eq_of_beq hln
    have hr := hr.resolve_left (fun z => by cases z)
    simp only [am_st] at hst
    split at hst
    next x s1 =>
      split at hst
      next ho =>
        obtain ⟨rfl, rfl, rfl, rfl⟩ := am_some_inv hst
        exact ⟨_, Or.inl hr, as_istore_n C hd ho⟩
      next => cases hst
    next => cases hst
  | lload j =>
    obtain rfl := Option.some.inj (show some (.lload j) = some i from hres)
    obtain rfl : len = 2 := eq_of_beq hln
    have hr := hr.resolve_left (fun z => by cases z)
    simp only [am_st] at hst
    split at hst
    next x hj =>
      obtain ⟨rfl, rfl, rfl, rfl⟩ := am_push_inv hst
      exact ⟨_, Or.inl hr, as_lload C hd hj⟩
    next => cases hst
  | lstore j =>
    obtain rfl := Option.some.inj (show some (.lstore j) = some i from hres)
    obtain rfl : len = 2 := eq_of_beq hln
    have hr := hr.resolve_left (fun z => by cases z)
    simp only [am_st] at hst
    split at hst
    next x s1 =>
      split at hst
      next ho =>
        obtain ⟨rfl, rfl, rfl, rfl⟩ := am_some_inv hst
        exact ⟨_, Or.inl hr, as_lstore C hd ho⟩
      next => cases hst
    next => cases hst
  | lload_n j =>
    obtain rfl := Option.some.inj (show some (.lload j.val) = some i from hres)
    obtain rfl : len = 1 := eq_of_beq hln
    have hr := hr.resolve_left (fun z => by cases z)
    simp only [am_st] at hst
    split at hst
    next x hj =>
      obtain ⟨rfl, rfl, rfl, rfl⟩ := am_push_inv hst
      exact ⟨_, Or.inl hr, as_lload_n C hd hj⟩
    next => cases hst
  | lstore_n j =>
    obtain rfl := Option.some.inj (show some (.lstore j.val) = some i from hres)
    obtain rfl : len = 1 := eq_of_beq hln
    have hr := hr.resolve_left (fun z => by cases z)
    simp only [am_st] at hst
    split at hst
    next x s1 =>
      split at hst
      next ho =>
        obtain ⟨rfl, rfl, rfl, rfl⟩ := am_some_inv hst
        exact ⟨_, Or.inl hr, as_lstore_n C hd ho⟩
      next => cases hst
    next => cases hst
  | aload j =>
    obtain rfl := Option.some.inj (show some (.aload j) = some i from hres)
    obtain rfl : len = 2 := eq_of_beq hln
    have hr := hr.resolve_left (fun z => by cases z)
    simp only [am_st] at hst
    split at hst
    next x hj =>
      split at hst
      next hx5 =>
        obtain ⟨rfl, rfl, rfl, rfl⟩ := am_push_inv hst
        exact ⟨_, Or.inl hr, as_aload C hd hj hx5⟩
      next => cases hst
    next => cases hst
  | astore j =>
    obtain rfl := Option.some.inj (show some (.astore j) = some i from hres)
    obtain rfl : len = 2 := eq_of_beq hln
    have hr := hr.resolve_left (fun z => by cases z)
    simp only [am_st] at hst
    split at hst
    next x s1 =>
      split at hst
      next ho =>
        obtain ⟨rfl, rfl, rfl, rfl⟩ := am_some_inv hst
        exact ⟨_, Or.inl hr, as_astore C hd ho.1 ho.2⟩
      next => cases hst
    next => cases hst
  | aload_n j =>
    obtain rfl := Option.some.inj (show some (.aload j.val) = some i from hres)
    obtain rfl : len = 1 := eq_of_beq hln
    have hr := hr.resolve_left (fun z => by cases z)
    simp only [am_st] at hst
    split at hst
    next x hj =>
      split at hst
      next hx5 =>
        obtain ⟨rfl, rfl, rfl, rfl⟩ := am_push_inv hst
        exact ⟨_, Or.inl hr, as_aload_n C hd hj hx5⟩
      next => cases hst
    next => cases hst
  | astore_n j =>
    obtain rfl := Option.some.inj (show some (.astore j.val) = some i from hres)
    obtain rfl : len = 1 := eq_of_beq hln
    have hr := hr.resolve_left (fun z => by cases z)
    simp only [am_st] at hst
    split at hst
    next x s1 =>
      split at hst
      next ho =>
        obtain ⟨rfl, rfl, rfl, rfl⟩ := am_some_inv hst
        exact ⟨_, Or.inl hr, as_astore_n C hd ho.1 ho.2⟩
      next => cases hst
    next => cases hst
  | iconst n =>
    obtain rfl := Option.some.inj (show some (am_cst n) = some i from hres)
    obtain rfl : len = 1 := eq_of_beq hln
    have hr := hr.resolve_left (fun z => by cases n <;> cases z)
    obtain ⟨rfl, rfl, rfl, rfl⟩ := am_cst_inv hst
    exact ⟨_, Or.inl hr, as_iconst C hd⟩
  | bipush n =>
    obtain rfl : len = 2 := eq_of_beq hln
    have hres : (if -128 ≤ n ∧ n < 128 then some (am_cst n) else none) = some i := hres
    split at hres
    next hn =>
      obtain rfl := Option.some.inj hres
      have hr := hr.resolve_left (fun z => by cases n <;> cases z)
      obtain ⟨rfl, rfl, rfl, rfl⟩ := am_cst_inv hst
      refine ⟨_, Or.inl hr, fun kk => as_bipush C hd ?_⟩
      rw [am_i8 hn.1 hn.2]
      exact kk
    next => cases hres
  | sipush n =>
    obtain rfl : len = 3 := eq_of_beq hln
    have hres : (if -32768 ≤ n ∧ n < 32768 then some (am_cst n) else none) = some i := hres
    split at hres
    next hn =>
      obtain rfl := Option.some.inj hres
      have hr := hr.resolve_left (fun z => by cases n <;> cases z)
      obtain ⟨rfl, rfl, rfl, rfl⟩ := am_cst_inv hst
      refine ⟨_, Or.inl hr, fun kk => as_sipush C hd ?_⟩
      rw [am_i16 hn.1 hn.2]
      exact kk
    next => cases hres
  | lconst n =>
    obtain rfl := Option.some.inj (show some (.lconst n) = some i from hres)
    obtain rfl : len = 1 := eq_of_beq hln
    have hr := hr.resolve_left (fun z => by cases z)
    obtain ⟨rfl, rfl, rfl, rfl⟩ := am_push_inv hst
    exact ⟨_, Or.inl hr, as_lconst C hd⟩
  | ldc j =>
    obtain rfl : len = 2 := eq_of_beq hln
    simp only [am_res] at hres
    split at hres
    next q hq =>
      obtain rfl := Option.some.inj hres
      have hr := hr.resolve_left (fun z => by rcases q with ⟨n, _⟩; cases n <;> cases z)
      obtain ⟨rfl, rfl, rfl, rfl⟩ := am_cst_inv hst
      exact ⟨_, Or.inl hr, as_ldci C hd (am_clk_ok _ (am_lookup_mem _ hq))⟩
    next hq =>
      split at hres
      next q hq =>
        obtain rfl := Option.some.inj hres
        have hr := hr.resolve_left (fun z => by cases z)
        obtain ⟨rfl, rfl, rfl, rfl⟩ := am_push_inv hst
        obtain ⟨h1, h2⟩ := am_rlk_ok _ (am_lookup_mem _ hq)
        cases hz : tt_refs[q.2]? with
        | none => rw [hz] at h1; cases h1
        | some z =>
          rw [hz] at h1
          obtain ⟨z1, z2, z3, z4⟩ := z
          have h3 := Option.some.inj h1
          simp only [Prod.mk.injEq] at h3
          obtain ⟨rfl, rfl, rfl⟩ := h3
          exact ⟨_, Or.inl hr, as_ldcs C hd hz h2⟩
      next => cases hres
  | ldc_w j =>
    obtain rfl : len = 3 := eq_of_beq hln
    simp only [am_res] at hres
    split at hres
    next q hq =>
      obtain rfl := Option.some.inj hres
      have hr := hr.resolve_left (fun z => by rcases q with ⟨n, _⟩; cases n <;> cases z)
      obtain ⟨rfl, rfl, rfl, rfl⟩ := am_cst_inv hst
      exact ⟨_, Or.inl hr, as_ldcwi C hd (am_clk_ok _ (am_lookup_mem _ hq))⟩
    next hq =>
      split at hres
      next q hq =>
        obtain rfl := Option.some.inj hres
        have hr := hr.resolve_left (fun z => by cases z)
        obtain ⟨rfl, rfl, rfl, rfl⟩ := am_push_inv hst
        obtain ⟨h1, h2⟩ := am_rlk_ok _ (am_lookup_mem _ hq)
        cases hz : tt_refs[q.2]? with
        | none => rw [hz] at h1; cases h1
        | some z =>
          rw [hz] at h1
          obtain ⟨z1, z2, z3, z4⟩ := z
          have h3 := Option.some.inj h1
          simp only [Prod.mk.injEq] at h3
          obtain ⟨rfl, rfl, rfl⟩ := h3
          exact ⟨_, Or.inl hr, as_ldcws C hd hz h2⟩
      next => cases hres
  | iinc j n =>
    obtain rfl := Option.some.inj (show some (.iinc j n) = some i from hres)
    obtain rfl : len = 3 := eq_of_beq hln
    have hr := hr.resolve_left (fun z => by cases z)
    simp only [am_st] at hst
    split at hst
    next x hj =>
      split at hst
      next ho =>
        obtain ⟨rfl, rfl, rfl, rfl⟩ := am_some_inv hst
        exact ⟨_, Or.inl hr, as_iinc C hd hj ho⟩
      next => cases hst
    next => cases hst
  | iadd =>
    obtain rfl := Option.some.inj (show some (.iadd) = some i from hres)
    obtain rfl : len = 1 := eq_of_beq hln
    have hr := hr.resolve_left (fun z => by cases z)
    obtain ⟨x, y, s1, rfl, rfl, rfl, rfl, rfl⟩ := am_bin_inv hst
    exact ⟨_, Or.inl hr, as_iadd C hd⟩
  | isub =>
    obtain rfl := Option.some.inj (show some (.isub) = some i from hres)
    obtain rfl : len = 1 := eq_of_beq hln
    have hr := hr.resolve_left (fun z => by cases z)
    obtain ⟨x, y, s1, rfl, rfl, rfl, rfl, rfl⟩ := am_bin_inv hst
    exact ⟨_, Or.inl hr, as_isub C hd⟩
  | imul =>
    obtain rfl := Option.some.inj (show some (.imul) = some i from hres)
    obtain rfl : len = 1 := eq_of_beq hln
    have hr := hr.resolve_left (fun z => by cases z)
    obtain ⟨x, y, s1, rfl, rfl, rfl, rfl, rfl⟩ := am_bin_inv hst
    exact ⟨_, Or.inl hr, as_imul C hd⟩
  | iand =>
    obtain rfl := Option.some.inj (show some (.iand) = some i from hres)
    obtain rfl : len = 1 := eq_of_beq hln
    have hr := hr.resolve_left (fun z => by cases z)
    obtain ⟨x, y, s1, rfl, rfl, rfl, rfl, rfl⟩ := am_bin_inv hst
    exact ⟨_, Or.inl hr, as_iand C hd⟩
  | ior =>
    obtain rfl := Option.some.inj (show some (.ior) = some i from hres)
    obtain rfl : len = 1 := eq_of_beq hln
    have hr := hr.resolve_left (fun z => by cases z)
    obtain ⟨x, y, s1, rfl, rfl, rfl, rfl, rfl⟩ := am_bin_inv hst
    exact ⟨_, Or.inl hr, as_ior C hd⟩
  | ixor =>
    obtain rfl := Option.some.inj (show some (.ixor) = some i from hres)
    obtain rfl : len = 1 := eq_of_beq hln
    have hr := hr.resolve_left (fun z => by cases z)
    obtain ⟨x, y, s1, rfl, rfl, rfl, rfl, rfl⟩ := am_bin_inv hst
    exact ⟨_, Or.inl hr, as_ixor C hd⟩
  | ishl =>
    obtain rfl := Option.some.inj (show some (.ishl) = some i from hres)
    obtain rfl : len = 1 := eq_of_beq hln
    have hr := hr.resolve_left (fun z => by cases z)
    obtain ⟨x, y, s1, rfl, rfl, rfl, rfl, rfl⟩ := am_bin_inv hst
    exact ⟨_, Or.inl hr, as_ishl C hd⟩
  | ishr =>
    obtain rfl := Option.some.inj (show some (.ishr) = some i from hres)
    obtain rfl : len = 1 := eq_of_beq hln
    have hr := hr.resolve_left (fun z => by cases z)
    obtain ⟨x, y, s1, rfl, rfl, rfl, rfl, rfl⟩ := am_bin_inv hst
    exact ⟨_, Or.inl hr, as_ishr C hd⟩
  | iushr =>
    obtain rfl := Option.some.inj (show some (.iushr) = some i from hres)
    obtain rfl : len = 1 := eq_of_beq hln
    have hr := hr.resolve_left (fun z => by cases z)
    obtain ⟨x, y, s1, rfl, rfl, rfl, rfl, rfl⟩ := am_bin_inv hst
    exact ⟨_, Or.inl hr, as_iushr C hd⟩
  | idiv =>
    obtain rfl := Option.some.inj (show some (.idiv) = some i from hres)
    obtain rfl : len = 1 := eq_of_beq hln
    have hr := hr.resolve_left (fun z => by cases z)
    obtain ⟨x, y, s1, rfl, hy, rfl, rfl, rfl, rfl⟩ := am_binZ_inv hst
    exact ⟨_, Or.inl hr, as_idiv C hd hy⟩
  | irem =>
    obtain rfl := Option.some.inj (show some (.irem) = some i from hres)
    obtain rfl : len = 1 := eq_of_beq hln
    have hr := hr.resolve_left (fun z => by cases z)
    obtain ⟨x, y, s1, rfl, hy, rfl, rfl, rfl, rfl⟩ := am_binZ_inv hst
    exact ⟨_, Or.inl hr, as_irem C hd hy⟩
  | ladd =>
    obtain rfl := Option.some.inj (show some (.ladd) = some i from hres)
    obtain rfl : len = 1 := eq_of_beq hln
    have hr := hr.resolve_left (fun z => by cases z)
    obtain ⟨x, y, s1, rfl, rfl, rfl, rfl, rfl⟩ := am_binL_inv hst
    exact ⟨_, Or.inl hr, as_ladd C hd⟩
  | lmul =>
    obtain rfl := Option.some.inj (show some (.lmul) = some i from hres)
    obtain rfl : len = 1 := eq_of_beq hln
    have hr := hr.resolve_left (fun z => by cases z)
    obtain ⟨x, y, s1, rfl, rfl, rfl, rfl, rfl⟩ := am_binL_inv hst
    exact ⟨_, Or.inl hr, as_lmul C hd⟩
  | ineg =>
    obtain rfl := Option.some.inj (show some (.ineg) = some i from hres)
    obtain rfl : len = 1 := eq_of_beq hln
    have hr := hr.resolve_left (fun z => by cases z)
    obtain ⟨x, s1, rfl, rfl, rfl, rfl, rfl⟩ := am_un_inv hst
    exact ⟨_, Or.inl hr, as_ineg C hd⟩
  | i2b =>
    obtain rfl := Option.some.inj (show some (.i2b) = some i from hres)
    obtain rfl : len = 1 := eq_of_beq hln
    have hr := hr.resolve_left (fun z => by cases z)
    obtain ⟨x, s1, rfl, rfl, rfl, rfl, rfl⟩ := am_un_inv hst
    exact ⟨_, Or.inl hr, as_i2b C hd⟩
  | i2s =>
    obtain rfl := Option.some.inj (show some (.i2s) = some i from hres)
    obtain rfl : len = 1 := eq_of_beq hln
    have hr := hr.resolve_left (fun z => by cases z)
    obtain ⟨x, s1, rfl, rfl, rfl, rfl, rfl⟩ := am_un_inv hst
    exact ⟨_, Or.inl hr, as_i2s C hd⟩
  | i2c =>
    obtain rfl := Option.some.inj (show some (.i2c) = some i from hres)
    obtain rfl : len = 1 := eq_of_beq hln
    have hr := hr.resolve_left (fun z => by cases z)
    obtain ⟨x, s1, rfl, rfl, rfl, rfl, rfl⟩ := am_un_inv hst
    exact ⟨_, Or.inl hr, as_i2c C hd⟩
  | i2l =>
    obtain rfl := Option.some.inj (show some (.i2l) = some i from hres)
    obtain rfl : len = 1 := eq_of_beq hln
    have hr := hr.resolve_left (fun z => by cases z)
    simp only [am_st] at hst
    split at hst
    next =>
      obtain ⟨rfl, rfl, rfl, rfl⟩ := am_push_inv hst
      exact ⟨_, Or.inl hr, as_i2l C hd⟩
    next => cases hst
  | lcmp =>
    obtain rfl := Option.some.inj (show some (.lcmp) = some i from hres)
    obtain rfl : len = 1 := eq_of_beq hln
    have hr := hr.resolve_left (fun z => by cases z)
    simp only [am_st] at hst
    split at hst
    next =>
      obtain ⟨rfl, rfl, rfl, rfl⟩ := am_push_inv hst
      exact ⟨_, Or.inl hr, as_lcmp C hd⟩
    next => cases hst
  | dup =>
    obtain rfl := Option.some.inj (show some (.dup) = some i from hres)
    obtain rfl : len = 1 := eq_of_beq hln
    have hr := hr.resolve_left (fun z => by cases z)
    simp only [am_st] at hst
    split at hst
    next v s1 =>
      split at hst
      next hv =>
        obtain ⟨rfl, rfl, rfl, rfl⟩ := am_some_inv hst
        exact ⟨_, Or.inl hr, as_dup C hd hv⟩
      next => cases hst
    next => cases hst
  | dup2 =>
    obtain rfl := Option.some.inj (show some (.dup2) = some i from hres)
    obtain rfl : len = 1 := eq_of_beq hln
    have hr := hr.resolve_left (fun z => by cases z)
    simp only [am_st] at hst
    split at hst
    next v w s1 =>
      split at hst
      next hv =>
        obtain ⟨rfl, rfl, rfl, rfl⟩ := am_some_inv hst
        exact ⟨_, Or.inl hr, as_dup2 C hd hv.1 hv.2⟩
      next => cases hst
    next => cases hst
  | pop =>
    obtain rfl := Option.some.inj (show some (.pop) = some i from hres)
    obtain rfl : len = 1 := eq_of_beq hln
    have hr := hr.resolve_left (fun z => by cases z)
    simp only [am_st] at hst
    split at hst
    next v s1 =>
      split at hst
      next hv =>
        obtain ⟨rfl, rfl, rfl, rfl⟩ := am_some_inv hst
        exact ⟨_, Or.inl hr, as_pop C hd hv⟩
      next => cases hst
    next => cases hst
  | iaload =>
    obtain rfl := Option.some.inj (show some (.iaload) = some i from hres)
    obtain rfl : len = 1 := eq_of_beq hln
    have hr := hr.resolve_left (fun z => by cases z)
    simp only [am_st] at hst
    split at hst
    next =>
      obtain ⟨x, hg, hst⟩ := am_opt_inv hst
      obtain ⟨rfl, rfl, rfl, rfl⟩ := am_push_inv hst
      exact ⟨_, Or.inl hr, as_iaload C hd hg⟩
    next => cases hst
  | baload =>
    obtain rfl := Option.some.inj (show some (.baload) = some i from hres)
    obtain rfl : len = 1 := eq_of_beq hln
    have hr := hr.resolve_left (fun z => by cases z)
    simp only [am_st] at hst
    split at hst
    next =>
      obtain ⟨x, hg, hst⟩ := am_opt_inv hst
      obtain ⟨rfl, rfl, rfl, rfl⟩ := am_push_inv hst
      exact ⟨_, Or.inl hr, as_baload C hd hg⟩
    next => cases hst
  | aaload =>
    obtain rfl := Option.some.inj (show some (.aaload) = some i from hres)
    obtain rfl : len = 1 := eq_of_beq hln
    have hr := hr.resolve_left (fun z => by cases z)
    simp only [am_st] at hst
    split at hst
    next =>
      obtain ⟨x, hg, hst⟩ := am_opt_inv hst
      obtain ⟨rfl, rfl, rfl, rfl⟩ := am_push_inv hst
      exact ⟨_, Or.inl hr, as_aaload C hd hg⟩
    next => cases hst
  | iastore =>
    obtain rfl := Option.some.inj (show some (.iastore) = some i from hres)
    obtain rfl : len = 1 := eq_of_beq hln
    have hr := hr.resolve_left (fun z => by cases z)
    simp only [am_st] at hst
    split at hst
    next =>
      obtain ⟨x, hg, hst⟩ := am_opt_inv hst
      obtain ⟨rfl, rfl, rfl, rfl⟩ := am_some_inv hst
      exact ⟨_, Or.inl hr, as_iastore C hd hg⟩
    next => cases hst
  | arraylength =>
    obtain rfl := Option.some.inj (show some (.arraylength) = some i from hres)
    obtain rfl : len = 1 := eq_of_beq hln
    have hr := hr.resolve_left (fun z => by cases z)
    simp only [am_st] at hst
    split at hst
    next =>
      obtain ⟨x, hg, hst⟩ := am_opt_inv hst
      obtain ⟨rfl, rfl, rfl, rfl⟩ := am_push_inv hst
      exact ⟨_, Or.inl hr, as_arraylength C hd hg⟩
    next => cases hst
  | getfield j =>
    obtain rfl : len = 3 := eq_of_beq hln
    simp only [am_res] at hres
    split at hres
    next q hq =>
      obtain rfl := Option.some.inj hres
      have hr := hr.resolve_left (fun z => by cases z)
      simp only [am_st] at hst
      split at hst
      next =>
        obtain ⟨x, hg, hst⟩ := am_opt_inv hst
        obtain ⟨rfl, rfl, rfl, rfl⟩ := am_push_inv hst
        exact ⟨_, Or.inl hr, as_getfield C hd hq hg⟩
      next => cases hst
    next => cases hres
  | putfield j =>
    obtain rfl : len = 3 := eq_of_beq hln
    simp only [am_res] at hres
    split at hres
    next q hq =>
      obtain rfl := Option.some.inj hres
      have hr := hr.resolve_left (fun z => by cases z)
      simp only [am_st] at hst
      split at hst
      next =>
        obtain ⟨x, hg, hst⟩ := am_opt_inv hst
        obtain ⟨rfl, rfl, rfl, rfl⟩ := am_some_inv hst
        exact ⟨_, Or.inl hr, as_putfield C hd hq hg⟩
      next => cases hst
    next => cases hres
  | getstatic j =>
    obtain rfl : len = 3 := eq_of_beq hln
    simp only [am_res] at hres
    split at hres
    next q hq =>
      obtain rfl := Option.some.inj hres
      have hr := hr.resolve_left (fun z => by cases z)
      obtain ⟨rfl, rfl, rfl, rfl⟩ := am_push_inv hst
      exact ⟨_, Or.inl hr, as_getstatic C hd hq⟩
    next => cases hres
  | goto t =>
    obtain rfl := Option.some.inj (show some (Instr.goto ((pc : Int) + t)) = some i from hres)
    obtain rfl : len = 3 := eq_of_beq hln
    obtain ⟨rfl, rfl, rfl, rfl⟩ := am_some_inv hst
    exact ⟨_, Or.inr rfl, as_goto C hd (of_decide_eq_true hctl)⟩
  | ifCond q t =>
    obtain rfl := Option.some.inj (show some (Instr.ifCond q ((pc : Int) + t)) = some i from hres)
    obtain rfl : len = 3 := eq_of_beq hln
    have hr := hr.resolve_left (fun z => by cases z)
    simp only [am_st] at hst
    split at hst
    next x s1 =>
      obtain ⟨rfl, rfl, rfl, rfl⟩ := am_some_inv hst
      by_cases hc : am_cmpB q x (nI 0) = true
      · rw [if_pos hc]
        refine ⟨_, Or.inr rfl, fun kk => ?_⟩
        have hc := (am_cmpB_iff q x _).mp hc
        cases q with
        | eq => exact as_if_eq C hd (of_decide_eq_true hctl) (fun _ => kk) (fun z => absurd hc z)
        | ne => exact as_if_ne C hd (of_decide_eq_true hctl) (fun _ => kk) (fun z => absurd z hc)
        | lt => exact as_if_lt C hd (of_decide_eq_true hctl) (fun _ => kk) (fun z => absurd hc z)
        | ge => exact as_if_ge C hd (of_decide_eq_true hctl) (fun _ => kk) (fun z => absurd hc z)
        | gt => exact as_if_gt C hd (of_decide_eq_true hctl) (fun _ => kk) (fun z => absurd hc z)
        | le => exact as_if_le C hd (of_decide_eq_true hctl) (fun _ => kk) (fun z => absurd hc z)
      · rw [if_neg hc]
        refine ⟨_, Or.inl hr, fun kk => ?_⟩
        have hc : ¬ am_cmp q x _ := fun z => hc ((am_cmpB_iff q x _).mpr z)
        cases q with
        | eq => exact as_if_eq C hd (of_decide_eq_true hctl) (fun z => absurd z hc) (fun _ => kk)
        | ne => exact as_if_ne C hd (of_decide_eq_true hctl) (fun z => absurd z hc) (fun _ => kk)
        | lt => exact as_if_lt C hd (of_decide_eq_true hctl) (fun z => absurd z hc) (fun _ => kk)
        | ge => exact as_if_ge C hd (of_decide_eq_true hctl) (fun z => absurd z hc) (fun _ => kk)
        | gt => exact as_if_gt C hd (of_decide_eq_true hctl) (fun z => absurd z hc) (fun _ => kk)
        | le => exact as_if_le C hd (of_decide_eq_true hctl) (fun z => absurd z hc) (fun _ => kk)
    next => cases hst
  | if_icmp q t =>
    obtain rfl := Option.some.inj (show some (Instr.if_icmp q ((pc : Int) + t)) = some i from hres)
    obtain rfl : len = 3 := eq_of_beq hln
    have hr := hr.resolve_left (fun z => by cases z)
    simp only [am_st] at hst
    split at hst
    next y x s1 =>
      obtain ⟨rfl, rfl, rfl, rfl⟩ := am_some_inv hst
      by_cases hc : am_cmpB q x y = true
      · rw [if_pos hc]
        refine ⟨_, Or.inr rfl, fun kk => ?_⟩
        have hc := (am_cmpB_iff q x _).mp hc
        cases q with
        | eq => exact as_icmp_eq C hd (of_decide_eq_true hctl) (fun _ => kk) (fun z => absurd hc z)
        | ne => exact as_icmp_ne C hd (of_decide_eq_true hctl) (fun _ => kk) (fun z => absurd z hc)
        | lt => exact as_icmp_lt C hd (of_decide_eq_true hctl) (fun _ => kk) (fun z => absurd hc z)
        | ge => exact as_icmp_ge C hd (of_decide_eq_true hctl) (fun _ => kk) (fun z => absurd hc z)
        | gt => exact as_icmp_gt C hd (of_decide_eq_true hctl) (fun _ => kk) (fun z => absurd hc z)
        | le => exact as_icmp_le C hd (of_decide_eq_true hctl) (fun _ => kk) (fun z => absurd hc z)
      · rw [if_neg hc]
        refine ⟨_, Or.inl hr, fun kk => ?_⟩
        have hc : ¬ am_cmp q x _ := fun z => hc ((am_cmpB_iff q x _).mpr z)
        cases q with
        | eq => exact as_icmp_eq C hd (of_decide_eq_true hctl) (fun z => absurd z hc) (fun _ => kk)
        | ne => exact as_icmp_ne C hd (of_decide_eq_true hctl) (fun z => absurd z hc) (fun _ => kk)
        | lt => exact as_icmp_lt C hd (of_decide_eq_true hctl) (fun z => absurd z hc) (fun _ => kk)
        | ge => exact as_icmp_ge C hd (of_decide_eq_true hctl) (fun z => absurd z hc) (fun _ => kk)
        | gt => exact as_icmp_gt C hd (of_decide_eq_true hctl) (fun z => absurd z hc) (fun _ => kk)
        | le => exact as_icmp_le C hd (of_decide_eq_true hctl) (fun z => absurd z hc) (fun _ => kk)
    next => cases hst
  | tableswitch d lo hi offs =>
    obtain rfl := Option.some.inj (show some (Instr.tableswitch ((pc : Int) + d) lo hi (offs.map fun t => (pc : Int) + t)) = some i from hres)
    simp only [am_st] at hst
    split at hst
    next x s1 =>
      obtain ⟨rfl, rfl, rfl, rfl⟩ := am_some_inv hst
      obtain ⟨h1, h2, h3⟩ := am_ctl_sw hctl
      refine ⟨_, Or.inr rfl, as_switch C hd ?_ ?_⟩
      · unfold am_sw
        split
        next => exact h1
        next hx =>
          rw [List.getD_eq_getElem?_getD]
          cases hz : (offs.map fun t => (pc : Int) + t).toList[(x.toInt - lo).toNat]? with
          | none => exact h1
          | some z => exact h2 z (List.mem_of_getElem? hz)
      · intro hx
        rw [Array.size_map] at h3
        omega
    next => cases hst
  | invokevirtual j =>
    simp only [am_res] at hres
    split at hres
    next q hq =>
      split at hres
      next => cases hres
      next hs =>
        obtain rfl := Option.some.inj hres
        have hq1 : q.1 < 500 := am_mlk_lt _ (am_lookup_mem _ hq)
        simp only [am_st] at hst
        rw [if_neg (by omega), if_neg (by omega), if_neg (by omega), if_neg (by omega)] at hst
        split at hst
        next => cases hst
        next => cases hst
    next => cases hres
  | invokestatic j =>
    obtain rfl : len = 3 := eq_of_beq hln
    simp only [am_res] at hres
    split at hres
    next q hq =>
      split at hres
      next hs =>
        obtain rfl := Option.some.inj hres
        have hq1 : q.1 < 500 := am_mlk_lt _ (am_lookup_mem _ hq)
        simp only [am_st] at hst
        rw [if_neg (by omega), if_neg (by omega), if_neg (by omega), if_neg (by omega)] at hst
        split at hst
        next => cases hst
        next => cases hst
      next => cases hres
    next =>
      split at hres
      next q hq =>
        split at hres
        next hs =>
          obtain rfl := Option.some.inj hres
          have hq1 : q.1 < 500 := am_nlk_lt _ (am_lookup_mem _ hq)
          simp only [am_st] at hst
          rw [if_neg (by omega), if_neg (by omega), if_neg (by omega), if_neg (by omega)] at hst
          split at hst
          next => cases hst
          next => cases hst
        next => cases hres
      next =>
        split at hres
        next q hq =>
          obtain ⟨pos, num⟩ := q
          simp only at hres
          by_cases h999 : num = 999
          · subst h999
            rw [if_pos rfl] at hres
            obtain rfl := Option.some.inj hres
            have hr := hr.resolve_left (fun z => by cases z)
            have hctl : 1 ≤ am_fr k ∧ 60 ≤ am_lo k := of_decide_eq_true hctl
            simp only [am_st] at hst
            rw [if_pos trivial] at hst
            split at hst
            next n dp o2 sp o1 s1 =>
              split at hst
              next hlen =>
                obtain ⟨G2, hg, hst⟩ := am_opt_inv hst
                obtain ⟨rfl, rfl, rfl, rfl⟩ := am_some_inv hst
                exact ⟨_, Or.inl hr, as_copy C hd hq hctl.1 hctl.2 hlen hg⟩
              next => cases hst
            next => cases hst
          rw [if_neg h999] at hres
          by_cases h996 : num = 996
          · subst h996
            rw [if_pos rfl] at hres
            obtain rfl := Option.some.inj hres
            have hr := hr.resolve_left (fun z => by cases z)
            have hctl : 1 ≤ am_fr k ∧ 60 ≤ am_lo k := of_decide_eq_true hctl
            simp only [am_st] at hst
            rw [if_neg (by decide), if_pos trivial] at hst
            split at hst
            next =>
              split at hst
              next hlen =>
                obtain ⟨rfl, rfl, rfl, rfl⟩ := am_push_inv hst
                exact ⟨_, Or.inl hr, as_min C hd hq hctl.1 hctl.2 hlen⟩
              next => cases hst
            next => cases hst
          rw [if_neg h996] at hres
          by_cases h997 : num = 997
          · subst h997
            rw [if_pos rfl] at hres
            obtain rfl := Option.some.inj hres
            have hr := hr.resolve_left (fun z => by cases z)
            have hctl : 1 ≤ am_fr k ∧ 60 ≤ am_lo k := of_decide_eq_true hctl
            simp only [am_st] at hst
            rw [if_neg (by decide), if_neg (by decide), if_pos trivial] at hst
            split at hst
            next =>
              split at hst
              next hlen =>
                obtain ⟨rfl, rfl, rfl, rfl⟩ := am_push_inv hst
                exact ⟨_, Or.inl hr, as_max C hd hq hctl.1 hctl.2 hlen⟩
              next => cases hst
            next => cases hst
          rw [if_neg h997] at hres
          by_cases h998 : num = 998
          · subst h998
            rw [if_pos rfl] at hres
            obtain rfl := Option.some.inj hres
            have hr := hr.resolve_left (fun z => by cases z)
            have hctl : 1 ≤ am_fr k ∧ 60 ≤ am_lo k := of_decide_eq_true hctl
            simp only [am_st] at hst
            rw [if_neg (by decide), if_neg (by decide), if_neg (by decide), if_pos trivial] at hst
            split at hst
            next =>
              split at hst
              next hlen =>
                obtain ⟨rfl, rfl, rfl, rfl⟩ := am_push_inv hst
                exact ⟨_, Or.inl hr, as_abs C hd (y := 0) hq hctl.1 hctl.2 hlen⟩
              next => cases hst
            next => cases hst
          rw [if_neg h998] at hres
          cases hres
        next => cases hres
  | ireturn =>
    simp only [am_res] at hres
    split at hres
    · obtain rfl := Option.some.inj hres
      exact absurd hst am_ret_ninl
    · obtain rfl := Option.some.inj hres
      exact absurd hst am_ret_ninl
    · obtain rfl := Option.some.inj hres
      exact absurd hst am_ret_ninl
    · obtain rfl := Option.some.inj hres
      exact absurd hst am_ret_ninl
    · cases hres
  | lreturn =>
    simp only [am_res] at hres
    split at hres
    · obtain rfl := Option.some.inj hres
      exact absurd hst am_ret_ninl
    · cases hres
  | areturn =>
    simp only [am_res] at hres
    split at hres
    · obtain rfl := Option.some.inj hres
      exact absurd hst am_ret_ninl
    · cases hres
  | return_ =>
    simp only [am_res] at hres
    split at hres
    · obtain rfl := Option.some.inj hres
      simp only [am_st] at hst
      split at hst <;> cases hst
    · cases hres
  | _ => exact absurd (show (none : Option Instr) = some i from hres) (fun z => by cases z)
end AMS
end
section
/-! ===== what the small machine runs, the machine runs; contracts out of runs ===== -/
theorem am_w_own : ∀ k, k < 213 → am_own k < 15 := by decide +kernel
theorem am_prim_of {k pc : Nat} {real : Instr} {m1 n1 : Nat} (h : am_res k pc real = some (.invokeinterface m1 n1)) : m1 < 500 ∨ m1 = 999 ∨ m1 = 996 ∨ m1 = 997 ∨ m1 = 998 := by
  cases real
  case invokevirtual j =>
    simp only [am_res] at h
    split at h
    next q hq =>
      split at h
      next => cases h
      next =>
        have hq1 : q.1 < 500 := am_mlk_lt _ (am_lookup_mem _ hq)
        cases h
        exact Or.inl hq1
    next => cases h
  case invokestatic j =>
    simp only [am_res] at h
    split at h
    next q hq =>
      split at h
      next =>
        have hq1 : q.1 < 500 := am_mlk_lt _ (am_lookup_mem _ hq)
        cases h
        exact Or.inl hq1
      next => cases h
    next =>
      split at h
      next q hq =>
        split at h
        next =>
          have hq1 : q.1 < 500 := am_nlk_lt _ (am_lookup_mem _ hq)
          cases h
          exact Or.inl hq1
        next => cases h
      next =>
        split at h
        next q hq =>
          repeat' split at h
          all_goals first | (cases h; done) | (cases h; omega)
        next => cases h
  all_goals exfalso
  all_goals simp only [am_res] at h
  all_goals try (repeat' split at h)
  all_goals first | (simp at h; done) | (have h := Option.some.inj h; revert h; unfold am_cst; split <;> intro h <;> cases h)
theorem am_na_of {k pc : Nat} {real : Instr} {m1 n1 : Nat} (h : am_res k pc real = some (.invokeinterface m1 n1)) (hm : m1 < 900) : n1 = am_na m1 := by
  cases real
  case invokevirtual j =>
    simp only [am_res] at h
    split at h
    next q hq =>
      split at h
      next => cases h
      next => cases h; rfl
    next => cases h
  case invokestatic j =>
    simp only [am_res] at h
    split at h
    next q hq =>
      split at h
      next => cases h; rfl
      next => cases h
    next =>
      split at h
      next q hq =>
        split at h
        next => cases h; rfl
        next => cases h
      next =>
        split at h
        next q hq =>
          repeat' split at h
          all_goals first | (cases h; done) | (cases h; omega)
        next => cases h
  all_goals exfalso
  all_goals simp only [am_res] at h
  all_goals try (repeat' split at h)
  all_goals first | (simp at h; done) | (have h := Option.some.inj h; revert h; unfold am_cst; split <;> intro h <;> cases h)
theorem am_goodin {ws : List Jvm.Cond} (h : ∀ w ∈ ws, w ∈ wsL_law) : GoodIn wsL_law ws := fun w hw => ⟨h w hw, good_of_word (List.all_eq_true.mp am_good w (h w hw))⟩
noncomputable def am_ws (k : Nat) : List Jvm.Cond := Jvm.Cond.code (am_y k) (am_cc k) (am_mx k) (am_rt k) :: wsL_law
def am_rm (k : Nat) : Room := { frames := am_fr k, cells := 0, slots := 0, locals := am_lo k }
def am_pre (a : Nat → Nat) (sio : Value) (X : AmX) (cI cR cS : ClassId) (D : va_G) (G : GG) (sz : Nat) : State → Prop := fun U => U.heap.size = sz ∧ va_P D vwCl (am_W a cI cR cS G) U.heap ∧ va_K D vwCl (am_ty cI cR cS) U ∧ (∀ i j, i < 72 → j < 72 → a i = a j → i = j) ∧ sio.category = 1 ∧ am_E a sio X (va_A (am_W a cI cR cS G) sz) U U.heap
def am_Qe (a : Nat → Nat) (sio : Value) (cI cR cS : ClassId) (D : va_G) (G1 : GG) (A : Nat → Prop) (v : Option Value) : Array Value → State → Outcome → State → Prop := fun _ st oc t => (oc = .returned (v.map (am_v a sio)) ∧ va_P D vwCl (am_W a cI cR cS G1) t.heap) ∧ va_F A st t
def am_Met (l : Launch) (a : Nat → Nat) (sio : Value) (X : AmX) (cI cR cS : ClassId) (D : va_G) (k : Nat) (as : List Value) (G : GG) (v : Option Value) (G1 : GG) : Prop :=
  ∀ sz : Nat, Met l (am_y k) (am_ws k) (am_rm k) (va_Pc (as.map (am_v a sio)) (am_pre a sio X cI cR cS D G sz)) (am_Qe a sio cI cR cS D G1 (va_A (am_W a cI cR cS G) sz) v) 0 0 (va_A (am_W a cI cR cS G) sz)
def am_ret (k pc : Nat) (v : Option Value) : Prop :=
  (∃ (x : Int32) (ty : FieldType), v = some (.int x) ∧ am_rt k = some ty ∧ narrow ty (.int x) = .int x ∧ decode (am_cc k) pc = .ok (.ireturn, 1)) ∨
  (∃ x : Int64, v = some (.long x) ∧ am_rt k = some .long ∧ decode (am_cc k) pc = .ok (.lreturn, 1)) ∨
  (∃ (x : Nat) (nm : String), v = some (.ref x) ∧ x < 500 ∧ am_rt k = some (.object nm) ∧ decode (am_cc k) pc = .ok (.areturn, 1)) ∨
  (v = none ∧ am_rt k = none ∧ decode (am_cc k) pc = .ok (.return_, 1))
theorem am_blind {a : Nat → Nat} {sio : Value} {X : AmX} {cI cR cS : ClassId} {D : va_G} {G : GG} {sz : Nat} {av : List Value} : FrameBlind (va_Pc av (am_pre a sio X cI cR cS D G sz)) :=
  fun b U g mk q => ⟨q.1, q.2.1, q.2.2.1, va_K.moved (u := U) (U := U.calling g mk b) (Vm.Alike.refl U.vm) q.2.2.2.1, q.2.2.2.2.1, q.2.2.2.2.2.1, am_E.same (u := U) (U := U.calling g mk b) rfl q.2.2.2.2.2.2⟩
theorem am_st_end {X : AmX} {k : Nat} {i : Instr} {r : List Instr} {lv : LV} {st : List Value} {G : GG} {z : Option Value × GG} (h : am_st X k i r lv st G = some (.inr (.inl z))) : (∃ t, i = .ret t) ∨ i = .return_ := by
  cases i
  case ret t => exact Or.inl ⟨t, rfl⟩
  case return_ => exact Or.inr rfl
  all_goals
    exfalso
    simp only [am_st, am_push, am_bin, am_binZ, am_binL, am_un, am_opt] at h
    try cases h
    repeat' split at h
    all_goals cases h
theorem am_st_call {X : AmX} {k m : Nat} {i : Instr} {r : List Instr} {lv lv1 : LV} {st st1 as : List Value} {G : GG} (h : am_st X k i r lv st G = some (.inr (.inr (m, as, lv1, st1)))) : ∃ c, i = .invokeinterface m c ∧ ¬ m = 999 ∧ ¬ m = 996 ∧ ¬ m = 997 ∧ ¬ m = 998 ∧ c ≤ st.length ∧ st1.length ≤ 4 ∧ am_rcv m as = true ∧ as = (st.take c).reverse ∧ st1 = st.drop c ∧ lv1 = lv := by
  cases i
  case invokeinterface m' c =>
    simp only [am_st] at h
    split at h
    next =>
      split at h
      next =>
        split at h
        next => obtain ⟨x, h1, h2⟩ := am_opt_inv h; cases h2
        next => cases h
      next => cases h
    next h999 =>
      split at h
      next =>
        simp only [am_push] at h
        repeat' split at h
        all_goals cases h
      next h996 =>
        split at h
        next =>
          simp only [am_push] at h
          repeat' split at h
          all_goals cases h
        next h997 =>
          split at h
          next =>
            simp only [am_push] at h
            repeat' split at h
            all_goals cases h
          next h998 =>
            split at h
            next hc =>
              cases h
              exact ⟨c, rfl, h999, h996, h997, h998, hc.1, hc.2.1, hc.2.2, rfl, rfl, rfl⟩
            next => cases h
  all_goals
    exfalso
    simp only [am_st, am_push, am_bin, am_binZ, am_binL, am_un, am_opt] at h
    try cases h
    repeat' split at h
    all_goals cases h
def am_kind (i : Instr) : Nat := match i with
  | .ret _ => 1
  | .return_ => 2
  | .invokeinterface _ _ => 3
  | _ => 0
def am_rkind (i : Instr) : Nat := match i with
  | .ireturn => 1
  | .lreturn => 1
  | .areturn => 1
  | .return_ => 2
  | .invokevirtual _ => 3
  | .invokestatic _ => 3
  | _ => 0
theorem am_kind_cst (n : Int) : am_kind (am_cst n) = 0 := by cases n <;> rfl
theorem am_res_kind {k pc : Nat} {real i : Instr} (h : am_res k pc real = some i) : am_rkind real = am_kind i := by
  cases real
  all_goals simp only [am_res] at h
  all_goals try (repeat' split at h)
  all_goals first | (simp at h; done) | (obtain rfl := Option.some.inj h; first | rfl | exact (am_kind_cst _).symm)
theorem am_ret_of {X : AmX} {k pc : Nat} {i : Instr} {r : List Instr} {lv : LV} {st : List Value} {G G1 : GG} {v : Option Value} (hat : am_at k pc (i :: r) = true) (h : am_st X k i r lv st G = some (.inr (.inl (v, G1)))) : am_ret k pc v ∧ G = G1 ∧ st = v.toList := by
  rcases am_at_dec hat with ⟨t, rfl, rfl⟩ | ⟨real, len, hd, hres, hln, hctl, hr⟩
  · cases h
  have hkd := am_res_kind hres
  rcases am_st_end h with ⟨t, rfl⟩ | rfl
  · simp only [am_st] at h
    cases real
    case ireturn =>
      obtain rfl : len = 1 := eq_of_beq hln
      simp only [am_res] at hres
      split at h
      next x =>
        split at h
        next hx =>
          cases h
          refine ⟨Or.inl ?_, rfl, rfl⟩
          split at hres
          next hrt => exact ⟨x, _, rfl, hrt, rfl, hd⟩
          next hrt =>
            cases hres
            refine ⟨x, _, rfl, hrt, ?_, hd⟩
            rcases (show x = nI 0 ∨ x = nI 1 by rcases hx with h | h | h | h <;> first | exact h.2 | (exact absurd h (by decide)) | (exact absurd h.1 (by decide))) with rfl | rfl <;> rfl
          next hrt =>
            cases hres
            refine ⟨x, _, rfl, hrt, ?_, hd⟩
            have hx2 : x.toInt8.toInt32 = x := by rcases hx with h | h | h | h <;> first | exact h.2 | (exact absurd h (by decide)) | (exact absurd h.1 (by decide))
            show Value.int x.toInt8.toInt32 = _
            rw [hx2]
          next hrt =>
            cases hres
            refine ⟨x, _, rfl, hrt, ?_, hd⟩
            have hx2 : (x.toUInt32 % 65536).toInt32 = x := by rcases hx with h | h | h | h <;> first | exact h.2 | (exact absurd h (by decide)) | (exact absurd h.1 (by decide))
            have hn := pk_nc x
            rw [hx2] at hn
            exact hn
          next => cases hres
        next => cases h
      next x =>
        split at h
        next hx => subst hx; exfalso; revert hres; split <;> intro hres <;> cases hres
        next => cases h
      next x =>
        split at h
        next hx => obtain ⟨rfl, -⟩ := hx; exfalso; revert hres; split <;> intro hres <;> cases hres
        next => cases h
      next => cases h
    case lreturn =>
      obtain rfl : len = 1 := eq_of_beq hln
      simp only [am_res] at hres
      split at hres
      next hrt =>
        cases hres
        split at h
        next x => exact absurd h (by simp)
        next x => simp only [if_true] at h; cases h; exact ⟨Or.inr (Or.inl ⟨x, rfl, hrt, hd⟩), rfl, rfl⟩
        next x => exact absurd h (by simp)
        next => cases h
      next => cases hres
    case areturn =>
      obtain rfl : len = 1 := eq_of_beq hln
      simp only [am_res] at hres
      split at hres
      next nm hrt =>
        cases hres
        split at h
        next x => exact absurd h (by simp)
        next x => exact absurd h (by simp)
        next x =>
          split at h
          next hx => cases h; exact ⟨Or.inr (Or.inr (Or.inl ⟨x, nm, rfl, hx.2, hrt, hd⟩)), rfl, rfl⟩
          next => cases h
        next => cases h
      next => cases hres
    all_goals first | exact absurd (show (0 : Nat) = 1 from hkd) (by decide) | exact absurd (show (2 : Nat) = 1 from hkd) (by decide) | exact absurd (show (3 : Nat) = 1 from hkd) (by decide)
  · simp only [am_st] at h
    split at h
    next =>
      cases h
      cases real
      case return_ =>
        obtain rfl : len = 1 := eq_of_beq hln
        simp only [am_res] at hres
        split at hres
        next hrt => exact ⟨Or.inr (Or.inr (Or.inr ⟨rfl, hrt, hd⟩)), rfl, rfl⟩
        next => cases hres
      all_goals first | exact absurd (show (0 : Nat) = 2 from hkd) (by decide) | exact absurd (show (1 : Nat) = 2 from hkd) (by decide) | exact absurd (show (3 : Nat) = 2 from hkd) (by decide)
    next => cases h
section AMC
variable {p : Program} {l : Launch} {e : Env} {R : Room} {s : State} {m : MethodId} {args : Array Value} {below : List Frame} {meth : Method} {c : Code} {cells slots : Nat} {Q : State → Prop}
variable {a : Nat → Nat} {sio : Value} {X : AmX} {cI cR cS : ClassId} {D : va_G} {k : Nat} {A : Nat → Prop} {pc : Nat} {lv lv1 : LV} {st st1 : List Value} {G G1 : GG} {i : Instr} {r ops1 : List Instr}
theorem am_callW {H : Heap} {locs : List Loc} {ls : Array Slot} {rest st0 : List Value} {w1 : va_W} {A0 A1 : Nat → Prop} {H0 : Heap} {free : Addr → Prop} {v : Option Value} (hr : va_Run p l e R s m args below meth c H locs cells slots 0 0 (F0 m pc ls st0) rest (fun sx oc t => (oc = .returned v ∧ va_P D vwCl w1 t.heap) ∧ va_F A1 sx t) free) (hS : va_S A0 H0 H locs) (hA : ∀ q, A1 q → A0 q) (hf : ∀ q, free q → A0 q)
    (kk : ∀ (H1 : Heap) (locs1 : List Loc), va_P D vwCl w1 H1 → va_S A0 H0 H1 locs1 → W p l e R s m args below meth c H1 locs1 cells slots Q (F0 m (pc + 3) ls (v.toList ++ rest))) : W p l e R s m args below meth c H locs cells slots Q (F0 m pc ls st0) := by
  intro T hT Y
  obtain ⟨v1, sx, t, T', L, h0, Y', hL, e1, e2, ⟨⟨hv, hp⟩, hz, hk⟩, hst⟩ := hr T hT Y
  cases hv
  rw [h0] at hz hk
  obtain ⟨t2, a1, b1⟩ := kk T'.heap (locs ++ L) (by rw [e1]; exact hp)
    ⟨Nat.le_trans hS.1 (by rw [e1]; exact hz), fun q h1 h2 => by rw [e1, hk q (Nat.lt_of_lt_of_le h1 hS.1) (fun z => h2 (hA q z))]; exact hS.2.1 q h1 h2, fun q hq => by
      rcases List.mem_append.mp hq with h | h
      · exact hS.2.2 q h
      · exact hf _ (hL q h)⟩ T' rfl Y'
  exact ⟨t2, hst t2 a1, b1⟩
theorem am_w_in {k : Nat} (hk : k < 213) : ∀ w ∈ am_ws k, w ∈ wsL_law := fun w hw => (List.mem_cons.mp hw).elim (fun e => e ▸ am_w_code k hk) id
theorem am_narrowA {H : Heap} {locs : List Loc} {A0 : Nat → Prop} {H0 : Heap} (hap : ∀ k, k < 72 → A0 (a k)) (hA : ∀ q : Nat, H0.size ≤ q → A0 q) (hS : va_S A0 H0 H locs) : ∀ q, va_A (am_W a cI cR cS G) H.size q → A0 q := by
  rintro q (⟨j, e', hj⟩ | h)
  · have hj72 : j < 72 := by rw [← am_W_len (a := a) (cI := cI) (cR := cR) (cS := cS) (G := G)]; exact (List.getElem?_eq_some_iff.mp hj).1
    rw [am_W_get hj72] at hj
    cases hj
    exact hap j hj72
  · exact hA q (Nat.le_trans hS.1 h)
theorem am_clsof_c (o : Nat) : (∃ ci fs, am_sh o = 1 :: ci :: fs ∧ am_clsof o = ci) ∨ (100 ≤ o ∧ o < 111 ∧ am_clsof o = 6) ∨ am_clsof o = 99 := by
  unfold am_clsof
  split
  next ci fs hsh => exact Or.inl ⟨ci, fs, hsh, rfl⟩
  next =>
    split
    next h => exact Or.inr (Or.inl ⟨h.1, h.2, rfl⟩)
    next => exact Or.inr (Or.inr rfl)
theorem am_call (C : am_C a sio X cI cR cS D k p R s m args c A cells slots) {m1 n1 : Nat} (hat : am_at k pc (.invokeinterface m1 n1 :: r) = true) (hm : ¬ m1 = 999 ∧ ¬ m1 = 996 ∧ ¬ m1 = 997 ∧ ¬ m1 = 998) {as rest : List Value} (hst : st = as.reverse ++ rest) (hn : n1 = as.length) (hlen : rest.length ≤ 4) (hrc : am_rcv m1 as = true) {v : Option Value} (hM : am_Met l a sio X cI cR cS D m1 as G v G1) (hat2 : ∀ pc1, am_at k pc1 r = true → am_Wt (fun H locs g => W p l e R s m args below meth c H locs cells slots Q g) D a sio cI cR cS m (am_mx k) A s.heap (pc1) (lv) (v.toList ++ rest) (G1)) : am_Wt (fun H locs g => W p l e R s m args below meth c H locs cells slots Q g) D a sio cI cR cS m (am_mx k) A s.heap (pc) (lv) (st) (G) := by
  obtain ⟨hx, hb, hml, hown, hts, hK, hE, hA, hfr, hlo, hce, hsl, hap, hsio⟩ := C
  rcases am_at_dec hat with ⟨t, h, -⟩ | ⟨real, len, hd, hres, hln, hctl, hr⟩
  · cases h
  have hkd := am_res_kind hres
  have hr2 := hr.resolve_left (fun z => by cases z)
  have hnprim : ¬ 996 ≤ m1 := by
    intro hge
    have hpr := am_prim_of hres
    omega
  have hct : m1 < am_nM ∧ am_fr m1 + 1 ≤ am_fr k ∧ 8 + (am_mx m1 + 11) + am_lo m1 ≤ am_lo k := by
    unfold am_ctl at hctl
    simp only at hctl
    rw [if_neg hnprim] at hctl
    exact of_decide_eq_true hctl
  obtain ⟨hm1, hf1, hl1⟩ := hct
  have hm1 : m1 < 213 := hm1
  obtain ⟨hyc, hyp, hy1, hy2, hy3⟩ := am_w_y m1 hm1
  intro hL ls H locs hP hS hl
  have hD := am_W_D (cI := cI) (cR := cR) (cS := cS) (G := G) hap
  have hfree := am_narrowA (cI := cI) (cR := cR) (cS := cS) (G := G) hap.2 hA hS
  have hsum := am_sum (am_cat2 (a := a) hsio) rest
  have hini := hts _ (List.mem_of_getElem? (am_w_ini m1 hm1))
  have hpre : ∀ U : State, U.heap = H → s.WarmedH U.vm → va_Pc (as.map (am_v a sio)) (am_pre a sio X cI cR cS D G H.size) (as.map (am_v a sio)).toArray U := fun U hU hW =>
    ⟨rfl, by rw [hU], by rw [hU]; exact hP, va_K.moved hW.alike hK, hap.1, hsio, by rw [hU]; exact ((hE.kept hS).warm hW).narrow hfree⟩
  have hkk := fun (H1 : Heap) (locs1 : List Loc) (h1 : va_P D vwCl (am_W a cI cR cS G1) H1) (h2 : va_S A s.heap H1 locs1) => hat2 (pc + 3)
  have hroom : (am_rm m1).frames + 1 ≤ R.frames ∧ 8 + (am_mx m1 + 11) + (am_rm m1).locals ≤ R.locals := ⟨Nat.le_trans hf1 hfr, Nat.le_trans hl1 hlo⟩
  have hmaps : st.map (am_v a sio) = (as.map (am_v a sio)).reverse ++ rest.map (am_v a sio) := by rw [hst, List.map_append, List.map_reverse]
  have hcat : (v.map (am_v a sio)).toList ++ rest.map (am_v a sio) = (v.toList ++ rest).map (am_v a sio) := by cases v <;> simp
  cases real
  case invokevirtual j =>
    obtain rfl : len = 3 := eq_of_beq hln
    simp only [am_res] at hres
    split at hres
    next q hq =>
      split at hres
      next => cases hres
      next hsf =>
        have hlinkw := am_mlk_ok _ (am_lookup_mem _ hq)
        have hres := Option.some.inj hres
        cases hres
        have hsf : am_stat q.1 = false := by simpa using hsf
        cases as with
        | nil => simp [am_rcv, hsf] at hrc
        | cons v0 as =>
          have hrc2 : ∃ o : Nat, v0 = .ref o ∧ am_clsof o = am_own q.1 := by
            simp only [am_rcv, hsf, Bool.false_or, Bool.and_eq_true] at hrc
            cases v0 with
            | ref o => exact ⟨o, rfl, eq_of_beq hrc.2⟩
            | _ => exact absurd hrc.2 (by simp)
          obtain ⟨o, rfl, hclo⟩ := hrc2
          have hsel := am_w_sel q.1 hm1 hsf
          have hinst := am_w_stat q.1 hm1
          rw [hsf] at hinst hy3
          have hin2 : ∀ w ∈ wsV (am_cn (am_own k)) j (am_cn (am_own q.1)) (am_y q.1) (am_ws q.1), w ∈ wsL_law := by
            intro w hw
            rcases List.mem_append.mp hw with h | h
            · simp only [List.mem_cons, List.not_mem_nil, or_false] at h
              rcases h with rfl | rfl | rfl | rfl
              · exact List.mem_of_getElem? hlinkw
              · exact List.mem_of_getElem? hinst
              · exact List.mem_of_getElem? hsel
              · rw [← hyc]; exact List.mem_of_getElem? (am_w_ini q.1 hm1)
            · exact am_w_in hm1 w h
          have hwo := am_w_own q.1 hm1
          have ho5 : o < 500 := by
            rcases am_clsof_c o with ⟨ci, fs, h1, h2⟩ | ⟨h1, h2, h3⟩ | h1
            · have := (am_sh_obj h1).1; omega
            · omega
            · omega
          have hrecv : ∃ cellB : Cell, H[a o]? = some cellB ∧ cellB.vm.isStatics = false ∧ s.vm.findClass (am_cn (am_own q.1)) = some cellB.cls := by
            rcases am_clsof_c o with ⟨ci, fs, hsh, h2⟩ | ⟨h1, h2, h3⟩ | h1
            · obtain ⟨ho, hci, -⟩ := am_sh_obj hsh
              rw [← hclo, h2]
              exact va_recv (q0 := o) hK hP (am_cl_ok hci) (by rw [am_W_get ho, am_cell_obj hsh])
            · rw [← hclo, h3]
              have h4 := vk_recv (N := 11) (i := o - 100) hE.2.2.2.2.2.2.1 (show o - 100 < 11 by omega) hS
              simp only [show 100 + (o - 100) = o by omega] at h4
              exact h4
            · omega
          simp only [List.map_cons, am_v_ref ho5] at hpre hmaps
          refine am_callW (rest := rest.map (am_v a sio)) (v := v.map (am_v a sio)) (free := va_A (am_W a cI cR cS G) H.size) (A1 := va_A (am_W a cI cR cS G) H.size) (w1 := am_W a cI cR cS G1) (va_runV (C := am_cn (am_own q.1)) (b := a o) (As := as.map (am_v a sio)) (n := am_na q.1 - 1) ⟨hx, hb, hml, hown, hts⟩ (hM H.size) (cwV (am_na q.1 - 1) hts (am_goodin hin2) rfl rfl rfl ⟨hyc, hy1, hy2, hy3⟩ hroom) ⟨am_blind, hrecv, fun U hU hW => by have := hpre U hU hW; simp only [List.map_cons, am_v_ref ho5]; exact this⟩ rfl (by rw [List.length_map]; simp only [List.length_cons] at hn; omega) hl.1 (by rw [hmaps]; simp) (lv_room (by omega)) hd ⟨hce, hsl⟩) hS hfree hfree (fun H1 locs1 h1 h2 => ?_)
          rw [hcat]
          exact hat2 (pc + 3) hr2 hL ls H1 locs1 h1 h2 hl
    next => cases hres
  case invokestatic j =>
    obtain rfl : len = 3 := eq_of_beq hln
    simp only [am_res] at hres
    split at hres
    next q hq =>
      split at hres
      next hsf =>
        have hlinkw := am_mlk_ok _ (am_lookup_mem _ hq)
        have hres := Option.some.inj hres
        cases hres
        have hinst := am_w_stat q.1 hm1
        rw [hsf] at hinst hy3
        have hin2 : ∀ w ∈ va_wsS (am_cn (am_own k)) j (am_y q.1) (am_ws q.1), w ∈ wsL_law := by
          intro w hw
          rcases List.mem_append.mp hw with h | h
          · simp only [List.mem_cons, List.not_mem_nil, or_false] at h
            rcases h with rfl | rfl | rfl
            · exact List.mem_of_getElem? hlinkw
            · exact List.mem_of_getElem? hinst
            · exact List.mem_of_getElem? (am_w_ini q.1 hm1)
          · exact am_w_in hm1 w h
        refine am_callW (rest := rest.map (am_v a sio)) (v := v.map (am_v a sio)) (free := va_A (am_W a cI cR cS G) H.size) (A1 := va_A (am_W a cI cR cS G) H.size) (w1 := am_W a cI cR cS G1) (va_runS (As := as.map (am_v a sio)) (n := am_na q.1) ⟨hx, hb, hml, hown, hts⟩ (hM H.size) (va_cwS (am_na q.1) hts (am_goodin hin2) rfl rfl rfl ⟨hy1, hy2, hy3⟩ hroom) ⟨am_blind, hpre⟩ rfl (by rw [List.length_map]; omega) hl.1 hmaps (lv_room (by omega)) hd ⟨hce, hsl⟩) hS hfree hfree (fun H1 locs1 h1 h2 => ?_)
        rw [hcat]
        exact hat2 (pc + 3) hr2 hL ls H1 locs1 h1 h2 hl
      next => cases hres
    next =>
      split at hres
      next q hq =>
        split at hres
        next hsf =>
          have hlinkn := am_nlk_ok _ (am_lookup_mem _ hq)
          have hres := Option.some.inj hres
          cases hres
          have hinst := am_w_stat q.1 hm1
          rw [hsf] at hinst hy3
          have hnest := hE.1 _ (List.mem_of_getElem? hlinkn)
          refine am_callW (rest := rest.map (am_v a sio)) (v := v.map (am_v a sio)) (free := va_A (am_W a cI cR cS G) H.size) (A1 := va_A (am_W a cI cR cS G) H.size) (w1 := am_W a cI cR cS G1) (va_runSN (As := as.map (am_v a sio)) (n := am_na q.1) ⟨hx, hb, hml, hown, hts⟩ (hM H.size) ⟨va_cnB (am_na q.1) hts (am_goodin (am_w_in hm1)) rfl rfl rfl hnest hini ⟨hy1, hy2, hy3⟩ hroom, am_word hts hinst, trivial⟩ ⟨am_blind, hpre⟩ rfl (by rw [List.length_map]; omega) hl.1 hmaps (lv_room (by omega)) hd ⟨hce, hsl⟩) hS hfree hfree (fun H1 locs1 h1 h2 => ?_)
          rw [hcat]
          exact hat2 (pc + 3) hr2 hL ls H1 locs1 h1 h2 hl
        next => cases hres
      next =>
        exfalso
        split at hres
        next q hq =>
          repeat' split at hres
          all_goals (try cases hres)
          all_goals omega
        next => cases hres
  all_goals first | exact absurd (show (0 : Nat) = 3 from hkd) (by decide) | exact absurd (show (1 : Nat) = 3 from hkd) (by decide) | exact absurd (show (2 : Nat) = 3 from hkd) (by decide)
end AMC
theorem am_run_nil {X : AmX} {n k : Nat} {lv : LV} {st : List Value} {G : GG} : am_run X n k [] lv st G = none := by cases n <;> rfl
theorem am_lv_args {vs : List Value} (hc : ∀ v ∈ vs, v.category = 1) : ∀ (i j : Nat) (v : Value), vs[j]? = some v → (i + j, v) ∈ lv_args i vs := by
  induction vs with
  | nil => intro i j v h; simp at h
  | cons w vs ih =>
    intro i j v h
    have hw : w.category = 1 := hc w List.mem_cons_self
    have e : lv_args i (w :: vs) = (i, w) :: lv_args (i + 1) vs := by simp [lv_args, hw]
    rw [e]
    cases j with
    | zero =>
      simp only [List.getElem?_cons_zero, Option.some.injEq] at h
      subst h
      exact List.mem_cons_self
    | succ j =>
      have := ih (fun v hv => hc v (List.mem_cons_of_mem _ hv)) (i + 1) j v (by simpa using h)
      rw [show i + 1 + j = i + (j + 1) by omega] at this
      exact List.mem_cons_of_mem _ this
theorem am_sl_len {vs : List Value} (hc : ∀ v ∈ vs, v.category = 1) : (lg_sl vs).length = vs.length := by
  induction vs with
  | nil => rfl
  | cons w vs ih =>
    have hw : w.category = 1 := hc w List.mem_cons_self
    have := ih (fun v hv => hc v (List.mem_cons_of_mem _ hv))
    simp only [lg_sl, List.flatMap_cons, hw, List.length_append, List.length_cons] at this ⊢
    simp at this ⊢
    omega
theorem am_ent_has {a : Nat → Nat} {sio : Value} (hs : sio.category = 1) {k : Nat} {as : List Value} (hc : ∀ v ∈ as, am_c1 v = true) (hn : as.length ≤ am_mx k) : lv_has ((lg_sl (as.map (am_v a sio)) ++ List.replicate (am_mx k - (lg_sl (as.map (am_v a sio))).length) Slot.unset).toArray) (am_mx k) (am_lvo (am_v a sio) 0 (am_ent k as)) := by
  have hc2 : ∀ v ∈ as.map (am_v a sio), v.category = 1 := by
    intro v hv
    obtain ⟨w, hw, rfl⟩ := List.mem_map.mp hv
    rw [am_v_cat hs]
    exact am_c1_cat (hc w hw)
  have h := lv_entry (as.map (am_v a sio)) (n := am_mx k) (by rw [am_sl_len hc2, List.length_map]; exact hn)
  refine ⟨h.1, h.2.1, fun q hq => h.2.2 q ?_⟩
  obtain ⟨j, v, h1, h2⟩ := (am_lvo_mem _ _ 0 q).mp hq
  have h3 : as[j]? = some v := by
    unfold am_ent at h1
    rcases Nat.lt_or_ge j as.length with z | z
    · rw [List.getElem?_append_left (by simpa using z), List.getElem?_map] at h1
      cases hz : as[j]? with
      | none => rw [hz] at h1; cases h1
      | some w => rw [hz] at h1; simpa using h1
    · rw [List.getElem?_append_right (by simpa using z)] at h1
      have := List.eq_of_mem_replicate (List.mem_of_getElem? h1)
      cases this
  rw [h2]
  exact am_lv_args hc2 0 j (am_v a sio v) (by rw [List.getElem?_map, h3]; rfl)
def am_Sim (l : Launch) (a : Nat → Nat) (sio : Value) (X : AmX) (cI cR cS : ClassId) (D : va_G) (n : Nat) : Prop :=
  ∀ (k : Nat), k < 214 → ∀ (pc : Nat) (ops : List Instr) (lv : LV) (st : List Value) (G : GG) (v : Option Value) (G1 : GG), am_run X n k ops lv st G = some (v, G1) → am_at k pc ops = true →
  ∀ (p : Program) (e : Env) (R : Room) (s : State) (m : MethodId) (args : Array Value) (below : List Frame) (meth : Method) (c : Code) (A : Nat → Prop) (cells slots : Nat) (Q : State → Prop), am_C a sio X cI cR cS D k p R s m args c A cells slots →
  (∀ (H1 : Heap) (locs1 : List Loc) (pc1 : Nat) (ls1 : Array Slot), am_ret k pc1 v → va_P D vwCl (am_W a cI cR cS G1) H1 → va_S A s.heap H1 locs1 → W p l e R s m args below meth c H1 locs1 cells slots Q (F0 m pc1 ls1 (v.toList.map (am_v a sio)))) →
  am_Wt (fun H locs g => W p l e R s m args below meth c H locs cells slots Q g) D a sio cI cR cS m (am_mx k) A s.heap (pc) (lv) (st) (G)
theorem am_met_of {l : Launch} {a : Nat → Nat} {sio : Value} {X : AmX} {cI cR cS : ClassId} {D : va_G} {n k : Nat} {as : List Value} {G G1 : GG} {v : Option Value} (hok : ∀ k, k < 214 → am_okm k = true) (hS : am_Sim l a sio X cI cR cS D n) (hk : k < 213) (hrun : am_run X n k (am_blk k 0) (am_ent k as) [] G = some (v, G1)) (hc : ∀ w ∈ as, am_c1 w = true) (hn : as.length ≤ am_mx k) : am_Met l a sio X cI cR cS D k as G v G1 := by
  intro sz
  obtain ⟨hyc, hyp, -⟩ := am_w_y k hk
  refine Met.ofW (cc := am_cc k) (maxL := am_mx k) (ret := am_rt k) hyp rfl ?_
  intro p e s m args0 below meth c s₁ B hml hv
  obtain ⟨rfl, hsz, hP, hK, hap, hsio, hE⟩ := hv
  subst hsz
  rw [lg_entry_eq]
  have hts := atoms_spec (ws := am_ws k) B.pre
  have hat : am_at k 0 (am_blk k 0) = true := by
    rcases am_blk_at (b := 0) (hok k (by omega)) with h | h
    · rw [h, am_run_nil] at hrun; cases hrun
    · exact h
  have hlocks := B.notSynchronized
  have hlen : (am_ent k as).length = am_mx k := by simp [am_ent]; omega
  refine hS k (by omega) 0 (am_blk k 0) (am_ent k as) [] G v G1 hrun hat p e (am_rm k) s m (as.map (am_v a sio)).toArray below meth c (va_A (am_W a cI cR cS G) s.heap.size) 0 0 _ ?_ ?_ hlen _ s.heap [] hP va_S.rf (am_ent_has hsio hc hn)
  · refine ⟨B.exec, B.bytes, hml, ?_, fun w hw => hts w (List.mem_cons_of_mem _ hw), hK, hE, fun q h => Or.inr h, Nat.le_refl _, Nat.le_refl _, Nat.zero_le _, Nat.zero_le _, ⟨hap, fun j hj => Or.inl ⟨j, _, am_W_get hj⟩⟩, hsio⟩
    rw [← hyc]
    exact findClass_of_methodNamed B.named
  · intro H1 locs1 pc1 ls1 hr hP1 hS1
    have hq : ∀ t : State, t.heap = H1 → s.WarmedH t.vm → am_Qe a sio cI cR cS D G1 (va_A (am_W a cI cR cS G) s.heap.size) v (as.map (am_v a sio)).toArray s (.returned (v.map (am_v a sio))) t := fun t ht _ => ⟨⟨rfl, by rw [ht]; exact hP1⟩, hS1.F ht⟩
    have hB := B.returns
    rcases hr with ⟨x, ty, rfl, hrt, hnr, hd⟩ | ⟨x, rfl, hrt, hd⟩ | ⟨x, nm, rfl, hx5, hrt, hd⟩ | ⟨rfl, hrt, hd⟩
    · exact W.zret B.exec B.bytes (hB.trans hrt) hnr hq hS1.2.2 hd hlocks
    · exact W.lret B.exec B.bytes (hB.trans hrt) hq hS1.2.2 hd hlocks
    · have hv : am_v a sio (.ref x) = .ref (a x) := am_v_ref hx5
      simp only [Option.map_some, hv] at hq
      simp only [Option.toList_some, List.map_cons, List.map_nil, hv]
      exact W.aret B.exec B.bytes (hB.trans hrt) (Or.inl ⟨nm, rfl⟩) (Or.inr ⟨_, rfl⟩) hq hS1.2.2 hd hlocks
    · exact W.vret B.exec B.bytes (hB.trans hrt) hq hS1.2.2 hd hlocks
theorem am_sim (l : Launch) (a : Nat → Nat) (sio : Value) (X : AmX) (cI cR cS : ClassId) (D : va_G) (hok : ∀ k, k < 214 → am_okm k = true) : ∀ n : Nat, am_Sim l a sio X cI cR cS D n := by
  intro n
  induction n with
  | zero => intro k hk pc ops lv st G v G1 h; cases h
  | succ n ih =>
    intro k hk pc ops lv st G v G1 h hat p e R s m args below meth c A cells slots Q C hret
    cases ops with
    | nil => cases h
    | cons i r =>
      unfold am_run at h
      cases hst : am_st X k i r lv st G with
      | none => rw [hst] at h; cases h
      | some z =>
        rw [hst] at h
        rcases z with ⟨ops1, lv1, st1, G2⟩ | ⟨v2, G2⟩ | ⟨m1, as, lv1, st1⟩
        · simp only at h
          obtain ⟨pc1, hat1, himp⟩ := am_step (l := l) (e := e) (below := below) (meth := meth) (Q := Q) C hat hst
          refine himp ?_
          have hat2 : am_at k pc1 ops1 = true := by
            rcases hat1 with h1 | rfl
            · exact h1
            · rcases am_blk_at (b := pc1) (hok k hk) with h2 | h2
              · rw [h2, am_run_nil] at h; cases h
              · exact h2
          exact ih k hk pc1 ops1 lv1 st1 G2 v G1 h hat2 p e R s m args below meth c A cells slots Q C hret
        · simp only at h
          cases h
          obtain ⟨h1, rfl, rfl⟩ := am_ret_of hat hst
          intro hL ls H locs hP hS hl
          exact hret H locs pc ls h1 hP hS
        · simp only at h
          obtain ⟨c1, rfl, m999, m996, m997, m998, hle, hlen, hrc, rfl, rfl, rfl⟩ := am_st_call hst
          cases hc : am_run X n m1 (am_blk m1 0) (am_ent m1 (st.take c1).reverse) [] G with
          | none => rw [hc] at h; cases h
          | some w =>
            obtain ⟨v1, G2⟩ := w
            rw [hc] at h
            simp only at h
            have hc1 : ∀ w ∈ (st.take c1).reverse, am_c1 w = true := by
              unfold am_rcv at hrc
              simp only [Bool.and_eq_true] at hrc
              exact List.all_eq_true.mp hrc.1
            have hlen1 : c1 = (st.take c1).reverse.length := by rw [List.length_reverse, List.length_take]; omega
            have hst1 : st = (st.take c1).reverse.reverse ++ st.drop c1 := by rw [List.reverse_reverse, List.take_append_drop]
            rcases am_at_dec hat with ⟨t, h9, -⟩ | ⟨real, len, hd, hres, hln, hctl, hr⟩
            · cases h9
            have hm1 : m1 < 213 := by
              have hpr := am_prim_of hres
              unfold am_ctl at hctl
              simp only at hctl
              rw [if_neg (by omega)] at hctl
              have h8 := (of_decide_eq_true hctl).1
              exact h8
            have hna := am_na_of hres (by omega)
            have hM : am_Met l a sio X cI cR cS D m1 (st.take c1).reverse G v1 G2 := am_met_of (fun k hk => hok k hk) ih hm1 hc hc1 (by rw [← hlen1]; have := (am_w_na m1 hm1).2; omega)
            exact am_call C hat ⟨m999, m996, m997, m998⟩ hst1 hlen1 hlen hrc hM (fun pc1 h1 => ih k hk pc1 r _ _ G2 v G1 h h1 p e R s m args below meth c A cells slots Q C hret)
end
section
/-! ===== reasoning about the small machine: WP, one rewriting rule an instruction ===== -/
theorem am_mono (X : AmX) : ∀ (n k : Nat) (ops : List Instr) (lv : LV) (st : List Value) (G : GG) (z : Option Value × GG), am_run X n k ops lv st G = some z → ∀ d : Nat, am_run X (n + d) k ops lv st G = some z := by
  intro n
  induction n with
  | zero => intro k ops lv st G z h; cases h
  | succ n ih =>
    intro k ops lv st G z h d
    rw [show n + 1 + d = (n + d) + 1 by omega]
    cases ops with
    | nil => cases h
    | cons i r =>
      unfold am_run at h ⊢
      cases hs : am_st X k i r lv st G with
      | none => rw [hs] at h; cases h
      | some o =>
        rw [hs] at h
        rcases o with ⟨ops', lv', st', G'⟩ | z' | ⟨m, args, lv', st'⟩
        · exact ih _ _ _ _ _ _ h d
        · exact h
        · simp only at h ⊢
          cases hc : am_run X n m (am_blk m 0) (am_ent m args) [] G with
          | none => rw [hc] at h; cases h
          | some w =>
            rw [hc] at h
            rw [ih _ _ _ _ _ _ hc d]
            exact ih _ _ _ _ _ _ h d
def WP (X : AmX) (k : Nat) (ops : List Instr) (lv : LV) (st : List Value) (G : GG) (Q : Option Value → GG → Prop) : Prop := ∃ (n : Nat) (v : Option Value) (G' : GG), am_run X n k ops lv st G = some (v, G') ∧ Q v G'
abbrev WPm (X : AmX) (m : Nat) (args : List Value) (G : GG) (Q : Option Value → GG → Prop) : Prop := WP X m (am_blk m 0) (am_ent m args) [] G Q
def Ev (X : AmX) (m : Nat) (args : List Value) (G : GG) (v : Option Value) (G' : GG) : Prop := ∃ n, am_run X n m (am_blk m 0) (am_ent m args) [] G = some (v, G')
theorem am_det {X : AmX} {n1 n2 k : Nat} {ops : List Instr} {lv : LV} {st : List Value} {G : GG} {z1 z2 : Option Value × GG} (h1 : am_run X n1 k ops lv st G = some z1) (h2 : am_run X n2 k ops lv st G = some z2) : z1 = z2 := by
  have a := am_mono X n1 k ops lv st G z1 h1 n2
  have b := am_mono X n2 k ops lv st G z2 h2 n1
  rw [Nat.add_comm] at b
  exact Option.some.inj (a.symm.trans b)
theorem Ev_of {X : AmX} {m : Nat} {args : List Value} {G G' : GG} {v : Option Value} (h : WPm X m args G (fun w H => w = v ∧ H = G')) : Ev X m args G v G' := by
  obtain ⟨n, w, H, h1, rfl, rfl⟩ := h
  exact ⟨n, h1⟩
theorem WPm_ev {X : AmX} {m : Nat} {args : List Value} {G : GG} {Q : Option Value → GG → Prop} (h : WPm X m args G Q) : ∃ v G', Ev X m args G v G' ∧ Q v G' := by
  obtain ⟨n, v, G', h1, h2⟩ := h
  exact ⟨v, G', ⟨n, h1⟩, h2⟩
theorem WP_mono {X : AmX} {k : Nat} {ops : List Instr} {lv : LV} {st : List Value} {G : GG} {Q Q' : Option Value → GG → Prop} (h : WP X k ops lv st G Q) (hq : ∀ v H, Q v H → Q' v H) : WP X k ops lv st G Q' := by
  obtain ⟨n, v, G', h1, h2⟩ := h
  exact ⟨n, v, G', h1, hq _ _ h2⟩
section WPr
variable {X : AmX} {k : Nat} {i : Instr} {r : List Instr} {lv : LV} {st : List Value} {G : GG} {Q : Option Value → GG → Prop}
theorem WP_go {ops' : List Instr} {lv' : LV} {st' : List Value} {G' : GG} (h : am_st X k i r lv st G = some (.inl (ops', lv', st', G'))) : WP X k (i :: r) lv st G Q ↔ WP X k ops' lv' st' G' Q := by
  constructor
  · rintro ⟨n, v, H, h1, h2⟩
    cases n with
    | zero => cases h1
    | succ n => unfold am_run at h1; rw [h] at h1; exact ⟨n, v, H, h1, h2⟩
  · rintro ⟨n, v, H, h1, h2⟩
    exact ⟨n + 1, v, H, by unfold am_run; rw [h]; exact h1, h2⟩
theorem WP_end {v : Option Value} {G' : GG} (h : am_st X k i r lv st G = some (.inr (.inl (v, G')))) : WP X k (i :: r) lv st G Q ↔ Q v G' := by
  constructor
  · rintro ⟨n, w, H, h1, h2⟩
    cases n with
    | zero => cases h1
    | succ n => unfold am_run at h1; rw [h] at h1; cases h1; exact h2
  · intro h2
    exact ⟨1, v, G', by unfold am_run; rw [h], h2⟩
theorem WP_stuck (h : am_st X k i r lv st G = none) : WP X k (i :: r) lv st G Q ↔ False := by
  constructor
  · rintro ⟨n, w, H, h1, h2⟩
    cases n with
    | zero => cases h1
    | succ n => unfold am_run at h1; rw [h] at h1; cases h1
  · exact False.elim
theorem WP_opt {α : Type} {o : Option α} {f : α → AmR} (h : am_st X k i r lv st G = am_opt o f) {P : α → Prop} (hf : ∀ x, o = some x → (∃ ops' lv' st' G', f x = some (.inl (ops', lv', st', G')) ∧ (WP X k ops' lv' st' G' Q ↔ P x))) : WP X k (i :: r) lv st G Q ↔ ∃ x, o = some x ∧ P x := by
  cases ho : o with
  | none => rw [ho] at h; rw [WP_stuck h]; simp
  | some x =>
    rw [ho] at h
    obtain ⟨a, b, c, d, e1, e2⟩ := hf x ho
    rw [WP_go (h.trans e1), e2]
    simp
theorem WP_callIn {m : Nat} {args : List Value} {lv' : LV} {st' : List Value} (h : am_st X k i r lv st G = some (.inr (.inr (m, args, lv', st')))) : WP X k (i :: r) lv st G Q ↔ WPm X m args G (fun v G1 => WP X k r lv' (v.toList ++ st') G1 Q) := by
  constructor
  · rintro ⟨n, w, H, h1, h2⟩
    cases n with
    | zero => cases h1
    | succ n =>
      unfold am_run at h1
      rw [h] at h1
      simp only at h1
      cases hc : am_run X n m (am_blk m 0) (am_ent m args) [] G with
      | none => rw [hc] at h1; cases h1
      | some z =>
        rw [hc] at h1
        exact ⟨n, z.1, z.2, hc, n, w, H, h1, h2⟩
  · rintro ⟨n1, v, G1, h1, n2, w, H, h2, h3⟩
    refine ⟨n1 + n2 + 1, w, H, ?_, h3⟩
    unfold am_run
    rw [h]
    simp only
    rw [am_mono X _ _ _ _ _ _ _ h1 n2, Nat.add_comm n1 n2]
    exact am_mono X _ _ _ _ _ _ _ h2 n1
theorem WPm_Ev {m : Nat} {args : List Value} {v : Option Value} {G' : GG} (h : Ev X m args G v G') : WPm X m args G Q ↔ Q v G' := by
  obtain ⟨n, hn⟩ := h
  constructor
  · rintro ⟨n2, w, H, h1, h2⟩
    have e := am_det h1 hn
    cases e
    exact h2
  · intro h2
    exact ⟨n, v, G', hn, h2⟩
/-- a call, with the callee's contract -/
theorem WP_ev {m c : Nat} {args rest : List Value} {v : Option Value} {G' : GG} (hev : Ev X m args G v G') (hm : m < 996) (hc : args.length = c) (hst : st = args.reverse ++ rest) (hl : rest.length ≤ 4) (hr : am_rcv m args = true) : WP X k (.invokeinterface m c :: r) lv st G Q ↔ WP X k r lv (v.toList ++ rest) G' Q := by
  have h1 : st.take c = args.reverse := by rw [hst, ← hc, ← List.length_reverse]; exact List.take_left
  have h2 : st.drop c = rest := by rw [hst, ← hc, ← List.length_reverse]; exact List.drop_left
  have h3 : c ≤ st.length := by rw [hst, List.length_append, List.length_reverse]; omega
  have h : am_st X k (.invokeinterface m c) r lv st G = some (.inr (.inr (m, args, lv, rest))) := by
    show (if m = 999 then _ else _) = _
    rw [if_neg (by omega), if_neg (by omega), if_neg (by omega), if_neg (by omega), h1, h2, List.reverse_reverse, if_pos ⟨h3, hl, hr⟩]
  rw [WP_callIn h, WPm_Ev hev]
theorem WP_ifc {c : Jvm.ClassFile.Cond} {x y : Int32} {a b : List Instr} {P : Prop} [Decidable P] (hP : am_cmp c x y ↔ P) : WP X k (if am_cmpB c x y = true then a else b) lv st G Q ↔ ((P → WP X k a lv st G Q) ∧ (¬ P → WP X k b lv st G Q)) := by
  by_cases h : P
  · rw [if_pos ((am_cmpB_iff c x y).mpr (hP.mpr h))]; simp [h]
  · rw [if_neg (fun z => h (hP.mp ((am_cmpB_iff c x y).mp z)))]; simp [h]
theorem WP_ifn {c : Jvm.ClassFile.Cond} {x y : Int32} {a b : List Instr} {P : Prop} [Decidable P] (hP : am_cmp c x y ↔ ¬ P) : WP X k (if am_cmpB c x y = true then a else b) lv st G Q ↔ ((P → WP X k b lv st G Q) ∧ (¬ P → WP X k a lv st G Q)) := by
  by_cases h : P
  · rw [if_neg (fun z => (hP.mp ((am_cmpB_iff c x y).mp z)) h)]; simp [h]
  · rw [if_pos ((am_cmpB_iff c x y).mpr (hP.mpr h))]; simp [h]
-- constants, locals
theorem wp_ldc {n : Nat} : WP X k (.ldc n :: r) lv st G Q ↔ WP X k r lv (.int (nI n) :: st) G Q := WP_go rfl
theorem wp_sipush {n : Int} : WP X k (.sipush n :: r) lv st G Q ↔ WP X k r lv (.int (am_ci n) :: st) G Q := WP_go rfl
theorem wp_ldc_w {j : Nat} : WP X k (.ldc_w j :: r) lv st G Q ↔ WP X k r lv (.ref (100 + j) :: st) G Q := WP_go rfl
theorem wp_lconst {n : Fin 2} : WP X k (.lconst n :: r) lv st G Q ↔ WP X k r lv (.long (Int64.ofNat n.val) :: st) G Q := WP_go rfl
theorem wp_iload {j : Nat} {x : Int32} (h : lv[j]? = some (some (.int x))) : WP X k (.iload j :: r) lv st G Q ↔ WP X k r lv (.int x :: st) G Q := WP_go (by simp only [am_st, h]; rfl)
theorem wp_aload {j x : Nat} (h : lv[j]? = some (some (.ref x))) (hx : x < 500) : WP X k (.aload j :: r) lv st G Q ↔ WP X k r lv (.ref x :: st) G Q := WP_go (by simp only [am_st, h, if_pos hx]; rfl)
theorem wp_lload {j : Nat} {x : Int64} (h : lv[j]? = some (some (.long x))) : WP X k (.lload j :: r) lv st G Q ↔ WP X k r lv (.long x :: st) G Q := WP_go (by simp only [am_st, h]; rfl)
theorem wp_istore {j : Nat} {x : Int32} {lv' : LV} (h : am_ok1 lv j = true) (hl : lv.set j (some (.int x)) = lv') : WP X k (.istore j :: r) lv (.int x :: st) G Q ↔ WP X k r lv' st G Q := WP_go (by simp only [am_st, if_pos h, hl])
theorem wp_astore {j x : Nat} {lv' : LV} (h : am_ok1 lv j = true) (hx : x < 500) (hl : lv.set j (some (.ref x)) = lv') : WP X k (.astore j :: r) lv (.ref x :: st) G Q ↔ WP X k r lv' st G Q := WP_go (by simp only [am_st]; rw [if_pos ⟨h, hx⟩, hl])
theorem wp_lstore {j : Nat} {x : Int64} {lv' : LV} (h : am_ok2 lv j = true) (hl : (lv.set j (some (.long x))).set (j + 1) none = lv') : WP X k (.lstore j :: r) lv (.long x :: st) G Q ↔ WP X k r lv' st G Q := WP_go (by simp only [am_st, if_pos h, hl])
theorem wp_iinc {j : Nat} {n : Int} {x : Int32} {lv' : LV} (h : lv[j]? = some (some (.int x))) (h2 : am_ok1 lv j = true) (hl : lv.set j (some (.int (x + am_ci n))) = lv') : WP X k (.iinc j n :: r) lv st G Q ↔ WP X k r lv' st G Q := WP_go (by simp only [am_st, h, if_pos h2, hl])
-- arithmetic
theorem wp_iadd {x y : Int32} : WP X k (.iadd :: r) lv (.int y :: .int x :: st) G Q ↔ WP X k r lv (.int (x + y) :: st) G Q := WP_go rfl
theorem wp_isub {x y : Int32} : WP X k (.isub :: r) lv (.int y :: .int x :: st) G Q ↔ WP X k r lv (.int (x - y) :: st) G Q := WP_go rfl
theorem wp_imul {x y : Int32} : WP X k (.imul :: r) lv (.int y :: .int x :: st) G Q ↔ WP X k r lv (.int (x * y) :: st) G Q := WP_go rfl
theorem wp_iand {x y : Int32} : WP X k (.iand :: r) lv (.int y :: .int x :: st) G Q ↔ WP X k r lv (.int (x &&& y) :: st) G Q := WP_go rfl
theorem wp_ior {x y : Int32} : WP X k (.ior :: r) lv (.int y :: .int x :: st) G Q ↔ WP X k r lv (.int (x ||| y) :: st) G Q := WP_go rfl
theorem wp_ixor {x y : Int32} : WP X k (.ixor :: r) lv (.int y :: .int x :: st) G Q ↔ WP X k r lv (.int (x ^^^ y) :: st) G Q := WP_go rfl
theorem wp_ishl {x y : Int32} : WP X k (.ishl :: r) lv (.int y :: .int x :: st) G Q ↔ WP X k r lv (.int (x <<< (y &&& 31)) :: st) G Q := WP_go rfl
theorem wp_ishr {x y : Int32} : WP X k (.ishr :: r) lv (.int y :: .int x :: st) G Q ↔ WP X k r lv (.int (x >>> (y &&& 31)) :: st) G Q := WP_go rfl
theorem wp_iushr {x y : Int32} : WP X k (.iushr :: r) lv (.int y :: .int x :: st) G Q ↔ WP X k r lv (.int ((x.toUInt32 >>> (y.toUInt32 &&& Int32.toUInt32 31)).toInt32) :: st) G Q := WP_go rfl
theorem wp_idiv {x y : Int32} : WP X k (.idiv :: r) lv (.int y :: .int x :: st) G Q ↔ (¬ y = nI 0 ∧ WP X k r lv (.int (x / y) :: st) G Q) := by
  by_cases h : y = nI 0
  · rw [WP_stuck (by simp [am_st, am_binZ, h])]; simp [h]
  · rw [WP_go (by simp only [am_st, am_binZ, if_neg h]; rfl)]; simp [h]
theorem wp_irem {x y : Int32} : WP X k (.irem :: r) lv (.int y :: .int x :: st) G Q ↔ (¬ y = nI 0 ∧ WP X k r lv (.int (x - x / y * y) :: st) G Q) := by
  by_cases h : y = nI 0
  · rw [WP_stuck (by simp [am_st, am_binZ, h])]; simp [h]
  · rw [WP_go (by simp only [am_st, am_binZ, if_neg h]; rfl)]; simp [h]
theorem wp_ineg {x : Int32} : WP X k (.ineg :: r) lv (.int x :: st) G Q ↔ WP X k r lv (.int (-x) :: st) G Q := WP_go rfl
theorem wp_i2b {x : Int32} : WP X k (.i2b :: r) lv (.int x :: st) G Q ↔ WP X k r lv (.int x.toInt8.toInt32 :: st) G Q := WP_go rfl
theorem wp_i2s {x : Int32} : WP X k (.i2s :: r) lv (.int x :: st) G Q ↔ WP X k r lv (.int x.toInt16.toInt32 :: st) G Q := WP_go rfl
theorem wp_i2c {x : Int32} : WP X k (.i2c :: r) lv (.int x :: st) G Q ↔ WP X k r lv (.int (x.toUInt32 % 65536).toInt32 :: st) G Q := WP_go rfl
theorem wp_i2l {x : Int32} : WP X k (.i2l :: r) lv (.int x :: st) G Q ↔ WP X k r lv (.long x.toInt64 :: st) G Q := WP_go rfl
theorem wp_ladd {x y : Int64} : WP X k (.ladd :: r) lv (.long y :: .long x :: st) G Q ↔ WP X k r lv (.long (x + y) :: st) G Q := WP_go rfl
theorem wp_lmul {x y : Int64} : WP X k (.lmul :: r) lv (.long y :: .long x :: st) G Q ↔ WP X k r lv (.long (x * y) :: st) G Q := WP_go rfl
theorem wp_lcmp {x y : Int64} : WP X k (.lcmp :: r) lv (.long y :: .long x :: st) G Q ↔ WP X k r lv (.int (lg_cmp x y) :: st) G Q := WP_go rfl
theorem wp_dup_i {x : Int32} : WP X k (.dup :: r) lv (.int x :: st) G Q ↔ WP X k r lv (.int x :: .int x :: st) G Q := WP_go rfl
theorem wp_dup_r {x : Nat} : WP X k (.dup :: r) lv (.ref x :: st) G Q ↔ WP X k r lv (.ref x :: .ref x :: st) G Q := WP_go rfl
theorem wp_dup2 {x : Int32} {y : Nat} : WP X k (.dup2 :: r) lv (.int x :: .ref y :: st) G Q ↔ WP X k r lv (.int x :: .ref y :: .int x :: .ref y :: st) G Q := WP_go rfl
theorem wp_pop {x : Int32} : WP X k (.pop :: r) lv (.int x :: st) G Q ↔ WP X k r lv st G Q := WP_go rfl
-- fields, arrays
theorem wp_getfield {f o : Nat} : WP X k (.getfield f :: r) lv (.ref o :: st) G Q ↔ ∃ v, am_gf G o f = some v ∧ WP X k r lv (v :: st) G Q := WP_opt (by rfl) (fun x _ => ⟨_, _, _, _, rfl, Iff.rfl⟩)
theorem wp_putfield {f o : Nat} {x : Int32} : WP X k (.putfield f :: r) lv (.int x :: .ref o :: st) G Q ↔ ∃ G', am_pf G o f x = some G' ∧ WP X k r lv st G' Q := WP_opt (by rfl) (fun x _ => ⟨_, _, _, _, rfl, Iff.rfl⟩)
theorem wp_getstatic {j : Nat} : WP X k (.getstatic j :: r) lv st G Q ↔ WP X k r lv ((if j = 0 then .ref 300 else if j = 1 then .int (nI 1) else .ref 500) :: st) G Q := WP_go rfl
theorem wp_iaload {i : Int32} {o : Nat} : WP X k (.iaload :: r) lv (.int i :: .ref o :: st) G Q ↔ ∃ x, am_ald X G o i = some x ∧ WP X k r lv (.int x :: st) G Q := WP_opt (by rfl) (fun x _ => ⟨_, _, _, _, rfl, Iff.rfl⟩)
theorem wp_baload {i : Int32} {o : Nat} : WP X k (.baload :: r) lv (.int i :: .ref o :: st) G Q ↔ ∃ x, am_bld o i = some x ∧ WP X k r lv (.int x :: st) G Q := WP_opt (by rfl) (fun x _ => ⟨_, _, _, _, rfl, Iff.rfl⟩)
theorem wp_aaload {i : Int32} {o : Nat} : WP X k (.aaload :: r) lv (.int i :: .ref o :: st) G Q ↔ ∃ x, am_qld o i = some x ∧ WP X k r lv (.ref x :: st) G Q := WP_opt (by rfl) (fun x _ => ⟨_, _, _, _, rfl, Iff.rfl⟩)
theorem wp_iastore {i x : Int32} {o : Nat} : WP X k (.iastore :: r) lv (.int x :: .int i :: .ref o :: st) G Q ↔ ∃ G', am_ast G o i x = some G' ∧ WP X k r lv st G' Q := WP_opt (by rfl) (fun x _ => ⟨_, _, _, _, rfl, Iff.rfl⟩)
theorem wp_arraylength {o : Nat} : WP X k (.arraylength :: r) lv (.ref o :: st) G Q ↔ ∃ n, am_len X o = some n ∧ WP X k r lv (.int (nI n) :: st) G Q := WP_opt (by rfl) (fun x _ => ⟨_, _, _, _, rfl, Iff.rfl⟩)
-- jumps, ends
theorem wp_goto {t : Int} : WP X k (.goto t :: r) lv st G Q ↔ WP X k (am_blk k t.toNat) lv st G Q := WP_go rfl
theorem wp_fall {t : Int} : WP X k (.goto_w t :: r) lv st G Q ↔ WP X k (am_blk k t.toNat) lv st G Q := WP_go rfl
theorem wp_ieq {t : Int} {x : Int32} : WP X k (.ifCond .eq t :: r) lv (.int x :: st) G Q ↔ ((x = nI 0 → WP X k (am_blk k t.toNat) lv st G Q) ∧ (¬ x = nI 0 → WP X k r lv st G Q)) := (WP_go rfl).trans (WP_ifc Iff.rfl)
theorem wp_ine {t : Int} {x : Int32} : WP X k (.ifCond .ne t :: r) lv (.int x :: st) G Q ↔ ((x = nI 0 → WP X k r lv st G Q) ∧ (¬ x = nI 0 → WP X k (am_blk k t.toNat) lv st G Q)) := (WP_go rfl).trans (WP_ifn Iff.rfl)
theorem wp_ilt {t : Int} {x : Int32} : WP X k (.ifCond .lt t :: r) lv (.int x :: st) G Q ↔ ((x < nI 0 → WP X k (am_blk k t.toNat) lv st G Q) ∧ (¬ x < nI 0 → WP X k r lv st G Q)) := (WP_go rfl).trans (WP_ifc Iff.rfl)
theorem wp_ige {t : Int} {x : Int32} : WP X k (.ifCond .ge t :: r) lv (.int x :: st) G Q ↔ ((nI 0 ≤ x → WP X k (am_blk k t.toNat) lv st G Q) ∧ (¬ nI 0 ≤ x → WP X k r lv st G Q)) := (WP_go rfl).trans (WP_ifc Iff.rfl)
theorem wp_igt {t : Int} {x : Int32} : WP X k (.ifCond .gt t :: r) lv (.int x :: st) G Q ↔ ((nI 0 < x → WP X k (am_blk k t.toNat) lv st G Q) ∧ (¬ nI 0 < x → WP X k r lv st G Q)) := (WP_go rfl).trans (WP_ifc Iff.rfl)
theorem wp_ile {t : Int} {x : Int32} : WP X k (.ifCond .le t :: r) lv (.int x :: st) G Q ↔ ((x ≤ nI 0 → WP X k (am_blk k t.toNat) lv st G Q) ∧ (¬ x ≤ nI 0 → WP X k r lv st G Q)) := (WP_go rfl).trans (WP_ifc Iff.rfl)
theorem wp_ceq {t : Int} {x y : Int32} : WP X k (.if_icmp .eq t :: r) lv (.int y :: .int x :: st) G Q ↔ ((x = y → WP X k (am_blk k t.toNat) lv st G Q) ∧ (¬ x = y → WP X k r lv st G Q)) := (WP_go rfl).trans (WP_ifc Iff.rfl)
theorem wp_cne {t : Int} {x y : Int32} : WP X k (.if_icmp .ne t :: r) lv (.int y :: .int x :: st) G Q ↔ ((x = y → WP X k r lv st G Q) ∧ (¬ x = y → WP X k (am_blk k t.toNat) lv st G Q)) := (WP_go rfl).trans (WP_ifn Iff.rfl)
theorem wp_clt {t : Int} {x y : Int32} : WP X k (.if_icmp .lt t :: r) lv (.int y :: .int x :: st) G Q ↔ ((x < y → WP X k (am_blk k t.toNat) lv st G Q) ∧ (¬ x < y → WP X k r lv st G Q)) := (WP_go rfl).trans (WP_ifc Iff.rfl)
theorem wp_cge {t : Int} {x y : Int32} : WP X k (.if_icmp .ge t :: r) lv (.int y :: .int x :: st) G Q ↔ ((y ≤ x → WP X k (am_blk k t.toNat) lv st G Q) ∧ (¬ y ≤ x → WP X k r lv st G Q)) := (WP_go rfl).trans (WP_ifc Iff.rfl)
theorem wp_cgt {t : Int} {x y : Int32} : WP X k (.if_icmp .gt t :: r) lv (.int y :: .int x :: st) G Q ↔ ((y < x → WP X k (am_blk k t.toNat) lv st G Q) ∧ (¬ y < x → WP X k r lv st G Q)) := (WP_go rfl).trans (WP_ifc Iff.rfl)
theorem wp_cle {t : Int} {x y : Int32} : WP X k (.if_icmp .le t :: r) lv (.int y :: .int x :: st) G Q ↔ ((x ≤ y → WP X k (am_blk k t.toNat) lv st G Q) ∧ (¬ x ≤ y → WP X k r lv st G Q)) := (WP_go rfl).trans (WP_ifc Iff.rfl)
theorem wp_sw {d lo hi : Int} {offs : Array Int} {x : Int32} : WP X k (.tableswitch d lo hi offs :: r) lv (.int x :: st) G Q ↔ WP X k (am_blk k (am_sw d lo hi offs x).toNat) lv st G Q := WP_go rfl
theorem wp_ret0 {v : Int32} : WP X k (.ret 0 :: r) lv [.int v] G Q ↔ Q (some (.int v)) G := WP_end (by simp [am_st])
theorem wp_ret1 {v : Int32} (h : v = nI 0 ∨ v = nI 1) : WP X k (.ret 1 :: r) lv [.int v] G Q ↔ Q (some (.int v)) G := WP_end (by simp [am_st, h])
theorem wp_ret1z : WP X k (.ret 1 :: r) lv [.int (nI 0)] G Q ↔ Q (some (.int (nI 0))) G := wp_ret1 (Or.inl rfl)
theorem wp_ret1o : WP X k (.ret 1 :: r) lv [.int (nI 1)] G Q ↔ Q (some (.int (nI 1))) G := wp_ret1 (Or.inr rfl)
theorem wp_ret2 {v : Int32} (h : v.toInt8.toInt32 = v) : WP X k (.ret 2 :: r) lv [.int v] G Q ↔ Q (some (.int v)) G := WP_end (by simp only [am_st]; exact if_pos (Or.inr (Or.inr (Or.inl ⟨trivial, h⟩))))
theorem wp_ret3 {v : Int32} (h : (v.toUInt32 % 65536).toInt32 = v) : WP X k (.ret 3 :: r) lv [.int v] G Q ↔ Q (some (.int v)) G := WP_end (by simp only [am_st]; exact if_pos (Or.inr (Or.inr (Or.inr ⟨trivial, h⟩))))
theorem wp_ret4 {v : Int64} : WP X k (.ret 4 :: r) lv [.long v] G Q ↔ Q (some (.long v)) G := WP_end (by simp [am_st])
theorem wp_ret5 {v : Nat} (h : v < 500) : WP X k (.ret 5 :: r) lv [.ref v] G Q ↔ Q (some (.ref v)) G := WP_end (by simp [am_st, h])
theorem wp_return : WP X k (.return_ :: r) lv [] G Q ↔ Q none G := WP_end rfl
theorem wp_copy {n dp sp : Int32} {o1 o2 : Nat} (h : st.length ≤ 4) : WP X k (.invokeinterface 999 5 :: r) lv (.int n :: .int dp :: .ref o2 :: .int sp :: .ref o1 :: st) G Q ↔ ∃ G', am_cpy G o1 sp o2 dp n = some G' ∧ WP X k r lv st G' Q := WP_opt (by simp only [am_st, if_pos h]; rfl) (fun x _ => ⟨_, _, _, _, rfl, Iff.rfl⟩)
theorem wp_min {x y : Int32} (h : st.length ≤ 4) : WP X k (.invokeinterface 996 2 :: r) lv (.int y :: .int x :: st) G Q ↔ WP X k r lv (.int (if y < x then y else x) :: st) G Q := WP_go (by simp only [am_st, if_pos h]; rfl)
theorem wp_max {x y : Int32} (h : st.length ≤ 4) : WP X k (.invokeinterface 997 2 :: r) lv (.int y :: .int x :: st) G Q ↔ WP X k r lv (.int (if x < y then y else x) :: st) G Q := WP_go (by simp only [am_st, if_pos h]; rfl)
theorem wp_abs {x : Int32} (h : st.length ≤ 4) : WP X k (.invokeinterface 998 1 :: r) lv (.int x :: st) G Q ↔ WP X k r lv (.int (if nI 0 ≤ x then x else nI 0 - x) :: st) G Q := WP_go (by simp only [am_st, if_pos h]; rfl)
end WPr
end
section
/-! ===== rules by place: locals, fields, arrays; printed by program ===== -/
section WPS
variable {X : AmX} {k : Nat} {r : List Instr} {l : LV} {st : List Value} {G : GG} {Q : Option Value → GG → Prop}
theorem am_nl_i {x : Int32} : am_nl (some (.int x)) = true := rfl
theorem am_nl_r {x : Nat} : am_nl (some (.ref x)) = true := rfl
theorem am_nl_n : am_nl none = true := rfl
theorem am_l0 : ([] : List Value).length ≤ 4 := Nat.le_of_ble_eq_true rfl
theorem am_l1 {a : Value} : [a].length ≤ 4 := Nat.le_of_ble_eq_true rfl
theorem am_l2 {a b : Value} : [a, b].length ≤ 4 := Nat.le_of_ble_eq_true rfl
theorem am_l3 {a b c : Value} : [a, b, c].length ≤ 4 := Nat.le_of_ble_eq_true rfl
theorem am_ok1_app (p : LV) (a b : Option Value) (l : LV) (h : am_nl a = true) : am_ok1 (p ++ a :: b :: l) (p.length + 1) = true := by
  have e : (p ++ a :: b :: l)[p.length]? = some a := by simp
  have e2 : p.length + 1 < (p ++ a :: b :: l).length := by simp
  simp only [am_ok1, e, e2, decide_true, Bool.true_and, h]
theorem am_ex {α : Type} {a : α} {P : α → Prop} : (∃ x, some a = some x ∧ P x) ↔ P a := by simp
theorem gset_eq {G : GG} {k : Nat} {f : Nat → Int32} : gset G k f k = f := if_pos rfl
theorem gset_ne {G : GG} {k j : Nat} {f : Nat → Int32} (h : ¬ j = k) : gset G k f j = G j := if_neg h
theorem upd_eq {f : Nat → Int32} {k : Nat} {x : Int32} : upd f k x k = x := if_pos rfl
theorem upd_ne {f : Nat → Int32} {k j : Nat} {x : Int32} (h : ¬ j = k) : upd f k x j = f j := if_neg h
theorem gset_gset {G : GG} {k : Nat} {f g : Nat → Int32} : gset (gset G k f) k g = gset G k g := by
  funext j; unfold gset; by_cases h : j = k <;> simp [h]
theorem am_nI_inj {a b : Nat} (ha : a < 2 ^ 31) (hb : b < 2 ^ 31) : (nI a = nI b) = (a = b) := propext (nI_eq ha hb)
theorem am_nI_lt {a b : Nat} (ha : a < 2 ^ 31) (hb : b < 2 ^ 31) : (nI a < nI b) = (a < b) := propext (nI_ltI ha hb)
theorem am_nI_le {a b : Nat} (ha : a < 2 ^ 31) (hb : b < 2 ^ 31) : (nI a ≤ nI b) = (a ≤ b) := propext (nI_leI ha hb)
theorem am_ci_1 : am_ci 1 = nI 1 := rfl
theorem am_ci_6 : am_ci 6 = nI 6 := rfl
theorem am_nI_sub {a b : Nat} (h : b ≤ a) : nI a - nI b = nI (a - b) := pk_sub h
theorem am_add_m1 {a : Nat} (h : 0 < a) : nI a + am_ci (-1) = nI (a - 1) := by
  rw [show a = (a - 1) + 1 by omega, show am_ci (-1) = -1 from rfl, pk_m1]; rfl
theorem am_toList_some {v : Value} {s : List Value} : (some v).toList ++ s = v :: s := rfl
theorem am_toList_none {s : List Value} : (none : Option Value).toList ++ s = s := rfl
theorem wil0 {x : Int32} : WP X k (.iload 0 :: r) (some (.int x) :: l) st G Q ↔ WP X k r (some (.int x) :: l) (.int x :: st) G Q := wp_iload rfl
theorem wal0 {x : Nat} (hx : x < 500) : WP X k (.aload 0 :: r) (some (.ref x) :: l) st G Q ↔ WP X k r (some (.ref x) :: l) (.ref x :: st) G Q := wp_aload rfl hx
theorem wis0 {a0 : Option Value} {x : Int32} : WP X k (.istore 0 :: r) (a0 :: l) (.int x :: st) G Q ↔ WP X k r (some (.int x) :: l) st G Q := wp_istore (by simp [am_ok1]) rfl
theorem wic0 {x : Int32} : WP X k (.iinc 0 (1) :: r) (some (.int x) :: l) st G Q ↔ WP X k r (some (.int (x + am_ci (1))) :: l) st G Q := wp_iinc rfl (by simp [am_ok1]) rfl
theorem wil1 {a0 : Option Value} {x : Int32} : WP X k (.iload 1 :: r) (a0 :: some (.int x) :: l) st G Q ↔ WP X k r (a0 :: some (.int x) :: l) (.int x :: st) G Q := wp_iload rfl
theorem wal1 {a0 : Option Value} {x : Nat} (hx : x < 500) : WP X k (.aload 1 :: r) (a0 :: some (.ref x) :: l) st G Q ↔ WP X k r (a0 :: some (.ref x) :: l) (.ref x :: st) G Q := wp_aload rfl hx
theorem wis1 {a0 a1 : Option Value} {x : Int32} (h : am_nl a0 = true) : WP X k (.istore 1 :: r) (a0 :: a1 :: l) (.int x :: st) G Q ↔ WP X k r (a0 :: some (.int x) :: l) st G Q := wp_istore (am_ok1_app [] a0 a1 l h) rfl
theorem wic1 {a0 : Option Value} {x : Int32} (h : am_nl a0 = true) : WP X k (.iinc 1 (1) :: r) (a0 :: some (.int x) :: l) st G Q ↔ WP X k r (a0 :: some (.int (x + am_ci (1))) :: l) st G Q := wp_iinc rfl (am_ok1_app [] a0 (some (.int x)) l h) rfl
theorem wil2 {a0 a1 : Option Value} {x : Int32} : WP X k (.iload 2 :: r) (a0 :: a1 :: some (.int x) :: l) st G Q ↔ WP X k r (a0 :: a1 :: some (.int x) :: l) (.int x :: st) G Q := wp_iload rfl
theorem wll2 {a0 a1 : Option Value} {x : Int64} : WP X k (.lload 2 :: r) (a0 :: a1 :: some (.long x) :: l) st G Q ↔ WP X k r (a0 :: a1 :: some (.long x) :: l) (.long x :: st) G Q := wp_lload rfl
theorem wal2 {a0 a1 : Option Value} {x : Nat} (hx : x < 500) : WP X k (.aload 2 :: r) (a0 :: a1 :: some (.ref x) :: l) st G Q ↔ WP X k r (a0 :: a1 :: some (.ref x) :: l) (.ref x :: st) G Q := wp_aload rfl hx
theorem wis2 {a0 a1 a2 : Option Value} {x : Int32} (h : am_nl a1 = true) : WP X k (.istore 2 :: r) (a0 :: a1 :: a2 :: l) (.int x :: st) G Q ↔ WP X k r (a0 :: a1 :: some (.int x) :: l) st G Q := wp_istore (am_ok1_app [a0] a1 a2 l h) rfl
theorem was2 {a0 a1 a2 : Option Value} {x : Nat} (h : am_nl a1 = true) (hx : x < 500) : WP X k (.astore 2 :: r) (a0 :: a1 :: a2 :: l) (.ref x :: st) G Q ↔ WP X k r (a0 :: a1 :: some (.ref x) :: l) st G Q := wp_astore (am_ok1_app [a0] a1 a2 l h) hx rfl
theorem wls2 {a0 a1 a2 a3 : Option Value} {x : Int64} (h : am_nl a1 = true) : WP X k (.lstore 2 :: r) (a0 :: a1 :: a2 :: a3 :: l) (.long x :: st) G Q ↔ WP X k r (a0 :: a1 :: some (.long x) :: none :: l) st G Q := wp_lstore (by have e := am_ok1_app [a0] a1 a2 (a3 :: l) h; simp only [am_ok2, Bool.and_eq_true, decide_eq_true_eq]; exact ⟨by simp, e⟩) rfl
theorem wic2 {a0 a1 : Option Value} {x : Int32} (h : am_nl a1 = true) : WP X k (.iinc 2 (1) :: r) (a0 :: a1 :: some (.int x) :: l) st G Q ↔ WP X k r (a0 :: a1 :: some (.int (x + am_ci (1))) :: l) st G Q := wp_iinc rfl (am_ok1_app [a0] a1 (some (.int x)) l h) rfl
theorem wil3 {a0 a1 a2 : Option Value} {x : Int32} : WP X k (.iload 3 :: r) (a0 :: a1 :: a2 :: some (.int x) :: l) st G Q ↔ WP X k r (a0 :: a1 :: a2 :: some (.int x) :: l) (.int x :: st) G Q := wp_iload rfl
theorem wis3 {a0 a1 a2 a3 : Option Value} {x : Int32} (h : am_nl a2 = true) : WP X k (.istore 3 :: r) (a0 :: a1 :: a2 :: a3 :: l) (.int x :: st) G Q ↔ WP X k r (a0 :: a1 :: a2 :: some (.int x) :: l) st G Q := wp_istore (am_ok1_app [a0, a1] a2 a3 l h) rfl
theorem wic3 {a0 a1 a2 : Option Value} {x : Int32} (h : am_nl a2 = true) : WP X k (.iinc 3 (1) :: r) (a0 :: a1 :: a2 :: some (.int x) :: l) st G Q ↔ WP X k r (a0 :: a1 :: a2 :: some (.int (x + am_ci (1))) :: l) st G Q := wp_iinc rfl (am_ok1_app [a0, a1] a2 (some (.int x)) l h) rfl
theorem wic3m {a0 a1 a2 : Option Value} {x : Int32} (h : am_nl a2 = true) : WP X k (.iinc 3 (-1) :: r) (a0 :: a1 :: a2 :: some (.int x) :: l) st G Q ↔ WP X k r (a0 :: a1 :: a2 :: some (.int (x + am_ci (-1))) :: l) st G Q := wp_iinc rfl (am_ok1_app [a0, a1] a2 (some (.int x)) l h) rfl
theorem wic3s {a0 a1 a2 : Option Value} {x : Int32} (h : am_nl a2 = true) : WP X k (.iinc 3 (6) :: r) (a0 :: a1 :: a2 :: some (.int x) :: l) st G Q ↔ WP X k r (a0 :: a1 :: a2 :: some (.int (x + am_ci (6))) :: l) st G Q := wp_iinc rfl (am_ok1_app [a0, a1] a2 (some (.int x)) l h) rfl
theorem wil4 {a0 a1 a2 a3 : Option Value} {x : Int32} : WP X k (.iload 4 :: r) (a0 :: a1 :: a2 :: a3 :: some (.int x) :: l) st G Q ↔ WP X k r (a0 :: a1 :: a2 :: a3 :: some (.int x) :: l) (.int x :: st) G Q := wp_iload rfl
theorem wis4 {a0 a1 a2 a3 a4 : Option Value} {x : Int32} (h : am_nl a3 = true) : WP X k (.istore 4 :: r) (a0 :: a1 :: a2 :: a3 :: a4 :: l) (.int x :: st) G Q ↔ WP X k r (a0 :: a1 :: a2 :: a3 :: some (.int x) :: l) st G Q := wp_istore (am_ok1_app [a0, a1, a2] a3 a4 l h) rfl
theorem wic4 {a0 a1 a2 a3 : Option Value} {x : Int32} (h : am_nl a3 = true) : WP X k (.iinc 4 (1) :: r) (a0 :: a1 :: a2 :: a3 :: some (.int x) :: l) st G Q ↔ WP X k r (a0 :: a1 :: a2 :: a3 :: some (.int (x + am_ci (1))) :: l) st G Q := wp_iinc rfl (am_ok1_app [a0, a1, a2] a3 (some (.int x)) l h) rfl
theorem wil5 {a0 a1 a2 a3 a4 : Option Value} {x : Int32} : WP X k (.iload 5 :: r) (a0 :: a1 :: a2 :: a3 :: a4 :: some (.int x) :: l) st G Q ↔ WP X k r (a0 :: a1 :: a2 :: a3 :: a4 :: some (.int x) :: l) (.int x :: st) G Q := wp_iload rfl
theorem wis5 {a0 a1 a2 a3 a4 a5 : Option Value} {x : Int32} (h : am_nl a4 = true) : WP X k (.istore 5 :: r) (a0 :: a1 :: a2 :: a3 :: a4 :: a5 :: l) (.int x :: st) G Q ↔ WP X k r (a0 :: a1 :: a2 :: a3 :: a4 :: some (.int x) :: l) st G Q := wp_istore (am_ok1_app [a0, a1, a2, a3] a4 a5 l h) rfl
theorem wic5 {a0 a1 a2 a3 a4 : Option Value} {x : Int32} (h : am_nl a4 = true) : WP X k (.iinc 5 (1) :: r) (a0 :: a1 :: a2 :: a3 :: a4 :: some (.int x) :: l) st G Q ↔ WP X k r (a0 :: a1 :: a2 :: a3 :: a4 :: some (.int (x + am_ci (1))) :: l) st G Q := wp_iinc rfl (am_ok1_app [a0, a1, a2, a3] a4 (some (.int x)) l h) rfl
theorem wic5m {a0 a1 a2 a3 a4 : Option Value} {x : Int32} (h : am_nl a4 = true) : WP X k (.iinc 5 (-1) :: r) (a0 :: a1 :: a2 :: a3 :: a4 :: some (.int x) :: l) st G Q ↔ WP X k r (a0 :: a1 :: a2 :: a3 :: a4 :: some (.int (x + am_ci (-1))) :: l) st G Q := wp_iinc rfl (am_ok1_app [a0, a1, a2, a3] a4 (some (.int x)) l h) rfl
theorem wil6 {a0 a1 a2 a3 a4 a5 : Option Value} {x : Int32} : WP X k (.iload 6 :: r) (a0 :: a1 :: a2 :: a3 :: a4 :: a5 :: some (.int x) :: l) st G Q ↔ WP X k r (a0 :: a1 :: a2 :: a3 :: a4 :: a5 :: some (.int x) :: l) (.int x :: st) G Q := wp_iload rfl
theorem wll6 {a0 a1 a2 a3 a4 a5 : Option Value} {x : Int64} : WP X k (.lload 6 :: r) (a0 :: a1 :: a2 :: a3 :: a4 :: a5 :: some (.long x) :: l) st G Q ↔ WP X k r (a0 :: a1 :: a2 :: a3 :: a4 :: a5 :: some (.long x) :: l) (.long x :: st) G Q := wp_lload rfl
theorem wal6 {a0 a1 a2 a3 a4 a5 : Option Value} {x : Nat} (hx : x < 500) : WP X k (.aload 6 :: r) (a0 :: a1 :: a2 :: a3 :: a4 :: a5 :: some (.ref x) :: l) st G Q ↔ WP X k r (a0 :: a1 :: a2 :: a3 :: a4 :: a5 :: some (.ref x) :: l) (.ref x :: st) G Q := wp_aload rfl hx
theorem wis6 {a0 a1 a2 a3 a4 a5 a6 : Option Value} {x : Int32} (h : am_nl a5 = true) : WP X k (.istore 6 :: r) (a0 :: a1 :: a2 :: a3 :: a4 :: a5 :: a6 :: l) (.int x :: st) G Q ↔ WP X k r (a0 :: a1 :: a2 :: a3 :: a4 :: a5 :: some (.int x) :: l) st G Q := wp_istore (am_ok1_app [a0, a1, a2, a3, a4] a5 a6 l h) rfl
theorem was6 {a0 a1 a2 a3 a4 a5 a6 : Option Value} {x : Nat} (h : am_nl a5 = true) (hx : x < 500) : WP X k (.astore 6 :: r) (a0 :: a1 :: a2 :: a3 :: a4 :: a5 :: a6 :: l) (.ref x :: st) G Q ↔ WP X k r (a0 :: a1 :: a2 :: a3 :: a4 :: a5 :: some (.ref x) :: l) st G Q := wp_astore (am_ok1_app [a0, a1, a2, a3, a4] a5 a6 l h) hx rfl
theorem wls6 {a0 a1 a2 a3 a4 a5 a6 a7 : Option Value} {x : Int64} (h : am_nl a5 = true) : WP X k (.lstore 6 :: r) (a0 :: a1 :: a2 :: a3 :: a4 :: a5 :: a6 :: a7 :: l) (.long x :: st) G Q ↔ WP X k r (a0 :: a1 :: a2 :: a3 :: a4 :: a5 :: some (.long x) :: none :: l) st G Q := wp_lstore (by have e := am_ok1_app [a0, a1, a2, a3, a4] a5 a6 (a7 :: l) h; simp only [am_ok2, Bool.and_eq_true, decide_eq_true_eq]; exact ⟨by simp, e⟩) rfl
theorem wic6 {a0 a1 a2 a3 a4 a5 : Option Value} {x : Int32} (h : am_nl a5 = true) : WP X k (.iinc 6 (1) :: r) (a0 :: a1 :: a2 :: a3 :: a4 :: a5 :: some (.int x) :: l) st G Q ↔ WP X k r (a0 :: a1 :: a2 :: a3 :: a4 :: a5 :: some (.int (x + am_ci (1))) :: l) st G Q := wp_iinc rfl (am_ok1_app [a0, a1, a2, a3, a4] a5 (some (.int x)) l h) rfl
theorem wil7 {a0 a1 a2 a3 a4 a5 a6 : Option Value} {x : Int32} : WP X k (.iload 7 :: r) (a0 :: a1 :: a2 :: a3 :: a4 :: a5 :: a6 :: some (.int x) :: l) st G Q ↔ WP X k r (a0 :: a1 :: a2 :: a3 :: a4 :: a5 :: a6 :: some (.int x) :: l) (.int x :: st) G Q := wp_iload rfl
theorem wal7 {a0 a1 a2 a3 a4 a5 a6 : Option Value} {x : Nat} (hx : x < 500) : WP X k (.aload 7 :: r) (a0 :: a1 :: a2 :: a3 :: a4 :: a5 :: a6 :: some (.ref x) :: l) st G Q ↔ WP X k r (a0 :: a1 :: a2 :: a3 :: a4 :: a5 :: a6 :: some (.ref x) :: l) (.ref x :: st) G Q := wp_aload rfl hx
theorem wis7 {a0 a1 a2 a3 a4 a5 a6 a7 : Option Value} {x : Int32} (h : am_nl a6 = true) : WP X k (.istore 7 :: r) (a0 :: a1 :: a2 :: a3 :: a4 :: a5 :: a6 :: a7 :: l) (.int x :: st) G Q ↔ WP X k r (a0 :: a1 :: a2 :: a3 :: a4 :: a5 :: a6 :: some (.int x) :: l) st G Q := wp_istore (am_ok1_app [a0, a1, a2, a3, a4, a5] a6 a7 l h) rfl
theorem was7 {a0 a1 a2 a3 a4 a5 a6 a7 : Option Value} {x : Nat} (h : am_nl a6 = true) (hx : x < 500) : WP X k (.astore 7 :: r) (a0 :: a1 :: a2 :: a3 :: a4 :: a5 :: a6 :: a7 :: l) (.ref x :: st) G Q ↔ WP X k r (a0 :: a1 :: a2 :: a3 :: a4 :: a5 :: a6 :: some (.ref x) :: l) st G Q := wp_astore (am_ok1_app [a0, a1, a2, a3, a4, a5] a6 a7 l h) hx rfl
theorem wic7 {a0 a1 a2 a3 a4 a5 a6 : Option Value} {x : Int32} (h : am_nl a6 = true) : WP X k (.iinc 7 (1) :: r) (a0 :: a1 :: a2 :: a3 :: a4 :: a5 :: a6 :: some (.int x) :: l) st G Q ↔ WP X k r (a0 :: a1 :: a2 :: a3 :: a4 :: a5 :: a6 :: some (.int (x + am_ci (1))) :: l) st G Q := wp_iinc rfl (am_ok1_app [a0, a1, a2, a3, a4, a5] a6 (some (.int x)) l h) rfl
theorem wil8 {a0 a1 a2 a3 a4 a5 a6 a7 : Option Value} {x : Int32} : WP X k (.iload 8 :: r) (a0 :: a1 :: a2 :: a3 :: a4 :: a5 :: a6 :: a7 :: some (.int x) :: l) st G Q ↔ WP X k r (a0 :: a1 :: a2 :: a3 :: a4 :: a5 :: a6 :: a7 :: some (.int x) :: l) (.int x :: st) G Q := wp_iload rfl
theorem wis8 {a0 a1 a2 a3 a4 a5 a6 a7 a8 : Option Value} {x : Int32} (h : am_nl a7 = true) : WP X k (.istore 8 :: r) (a0 :: a1 :: a2 :: a3 :: a4 :: a5 :: a6 :: a7 :: a8 :: l) (.int x :: st) G Q ↔ WP X k r (a0 :: a1 :: a2 :: a3 :: a4 :: a5 :: a6 :: a7 :: some (.int x) :: l) st G Q := wp_istore (am_ok1_app [a0, a1, a2, a3, a4, a5, a6] a7 a8 l h) rfl
theorem wic8 {a0 a1 a2 a3 a4 a5 a6 a7 : Option Value} {x : Int32} (h : am_nl a7 = true) : WP X k (.iinc 8 (1) :: r) (a0 :: a1 :: a2 :: a3 :: a4 :: a5 :: a6 :: a7 :: some (.int x) :: l) st G Q ↔ WP X k r (a0 :: a1 :: a2 :: a3 :: a4 :: a5 :: a6 :: a7 :: some (.int (x + am_ci (1))) :: l) st G Q := wp_iinc rfl (am_ok1_app [a0, a1, a2, a3, a4, a5, a6] a7 (some (.int x)) l h) rfl
theorem wil9 {a0 a1 a2 a3 a4 a5 a6 a7 a8 : Option Value} {x : Int32} : WP X k (.iload 9 :: r) (a0 :: a1 :: a2 :: a3 :: a4 :: a5 :: a6 :: a7 :: a8 :: some (.int x) :: l) st G Q ↔ WP X k r (a0 :: a1 :: a2 :: a3 :: a4 :: a5 :: a6 :: a7 :: a8 :: some (.int x) :: l) (.int x :: st) G Q := wp_iload rfl
theorem wis9 {a0 a1 a2 a3 a4 a5 a6 a7 a8 a9 : Option Value} {x : Int32} (h : am_nl a8 = true) : WP X k (.istore 9 :: r) (a0 :: a1 :: a2 :: a3 :: a4 :: a5 :: a6 :: a7 :: a8 :: a9 :: l) (.int x :: st) G Q ↔ WP X k r (a0 :: a1 :: a2 :: a3 :: a4 :: a5 :: a6 :: a7 :: a8 :: some (.int x) :: l) st G Q := wp_istore (am_ok1_app [a0, a1, a2, a3, a4, a5, a6, a7] a8 a9 l h) rfl
theorem wic9 {a0 a1 a2 a3 a4 a5 a6 a7 a8 : Option Value} {x : Int32} (h : am_nl a8 = true) : WP X k (.iinc 9 (1) :: r) (a0 :: a1 :: a2 :: a3 :: a4 :: a5 :: a6 :: a7 :: a8 :: some (.int x) :: l) st G Q ↔ WP X k r (a0 :: a1 :: a2 :: a3 :: a4 :: a5 :: a6 :: a7 :: a8 :: some (.int (x + am_ci (1))) :: l) st G Q := wp_iinc rfl (am_ok1_app [a0, a1, a2, a3, a4, a5, a6, a7] a8 (some (.int x)) l h) rfl
theorem wil10 {a0 a1 a2 a3 a4 a5 a6 a7 a8 a9 : Option Value} {x : Int32} : WP X k (.iload 10 :: r) (a0 :: a1 :: a2 :: a3 :: a4 :: a5 :: a6 :: a7 :: a8 :: a9 :: some (.int x) :: l) st G Q ↔ WP X k r (a0 :: a1 :: a2 :: a3 :: a4 :: a5 :: a6 :: a7 :: a8 :: a9 :: some (.int x) :: l) (.int x :: st) G Q := wp_iload rfl
theorem wis10 {a0 a1 a2 a3 a4 a5 a6 a7 a8 a9 a10 : Option Value} {x : Int32} (h : am_nl a9 = true) : WP X k (.istore 10 :: r) (a0 :: a1 :: a2 :: a3 :: a4 :: a5 :: a6 :: a7 :: a8 :: a9 :: a10 :: l) (.int x :: st) G Q ↔ WP X k r (a0 :: a1 :: a2 :: a3 :: a4 :: a5 :: a6 :: a7 :: a8 :: a9 :: some (.int x) :: l) st G Q := wp_istore (am_ok1_app [a0, a1, a2, a3, a4, a5, a6, a7, a8] a9 a10 l h) rfl
theorem wic10 {a0 a1 a2 a3 a4 a5 a6 a7 a8 a9 : Option Value} {x : Int32} (h : am_nl a9 = true) : WP X k (.iinc 10 (1) :: r) (a0 :: a1 :: a2 :: a3 :: a4 :: a5 :: a6 :: a7 :: a8 :: a9 :: some (.int x) :: l) st G Q ↔ WP X k r (a0 :: a1 :: a2 :: a3 :: a4 :: a5 :: a6 :: a7 :: a8 :: a9 :: some (.int (x + am_ci (1))) :: l) st G Q := wp_iinc rfl (am_ok1_app [a0, a1, a2, a3, a4, a5, a6, a7, a8] a9 (some (.int x)) l h) rfl
end WPS
theorem am_gfs : (∀ G : GG, am_gf G 0 128 = some (.ref 1)) ∧
  (∀ G : GG, am_gf G 0 129 = some (.ref 12)) ∧
  (∀ G : GG, am_gf G 0 130 = some (.ref 23)) ∧
  (∀ G : GG, am_gf G 0 131 = some (.ref 45)) ∧
  (∀ G : GG, am_gf G 0 132 = some (.ref 48)) ∧
  (∀ G : GG, am_gf G 0 133 = some (.ref 57)) ∧
  (∀ G : GG, am_gf G 0 134 = some (.int (G 0 6))) ∧
  (∀ G : GG, am_gf G 45 64 = some (.ref 46)) ∧
  (∀ G : GG, am_gf G 45 65 = some (.ref 34)) ∧
  (∀ G : GG, am_gf G 45 66 = some (.int (G 45 2))) ∧
  (∀ G : GG, am_gf G 45 67 = some (.int (G 45 3))) ∧
  (∀ G : GG, am_gf G 46 32 = some (.ref 47)) ∧
  (∀ G : GG, am_gf G 46 33 = some (.int (G 46 1))) ∧
  (∀ G : GG, am_gf G 46 34 = some (.int (G 46 2))) ∧
  (∀ G : GG, am_gf G 46 35 = some (.int (G 46 3))) ∧
  (∀ G : GG, am_gf G 46 36 = some (.int (G 46 4))) ∧
  (∀ G : GG, am_gf G 46 37 = some (.int (G 46 5))) ∧
  (∀ G : GG, am_gf G 58 160 = some (.ref 59)) ∧
  (∀ G : GG, am_gf G 58 161 = some (.ref 60)) ∧
  (∀ G : GG, am_gf G 58 162 = some (.ref 61)) ∧
  (∀ G : GG, am_gf G 58 163 = some (.int (G 58 3))) ∧
  (∀ G : GG, am_gf G 58 164 = some (.ref 62)) ∧
  (∀ G : GG, am_gf G 58 165 = some (.ref 63)) ∧
  (∀ G : GG, am_gf G 58 166 = some (.ref 64)) ∧
  (∀ G : GG, am_gf G 58 167 = some (.int (G 58 7))) ∧
  (∀ G : GG, am_gf G 58 168 = some (.ref 65)) ∧
  (∀ G : GG, am_gf G 58 169 = some (.int (G 58 9))) ∧
  (∀ G : GG, am_gf G 58 170 = some (.int (G 58 10))) ∧
  (∀ G : GG, am_gf G 58 171 = some (.int (G 58 11))) ∧
  (∀ G : GG, am_gf G 58 172 = some (.int (G 58 12))) ∧
  (∀ G : GG, am_gf G 58 173 = some (.int (G 58 13))) ∧
  (∀ G : GG, am_gf G 58 174 = some (.int (G 58 14))) ∧
  (∀ G : GG, am_gf G 58 175 = some (.ref 71)) ∧
  (∀ G : GG, am_gf G 58 176 = some (.ref 66)) ∧
  (∀ G : GG, am_gf G 58 177 = some (.int (G 58 17))) ∧
  (∀ G : GG, am_gf G 58 178 = some (.int (G 58 18))) ∧
  (∀ G : GG, am_gf G 58 179 = some (.ref 67)) ∧
  (∀ G : GG, am_gf G 58 180 = some (.ref 68)) ∧
  (∀ G : GG, am_gf G 58 181 = some (.ref 69)) ∧
  (∀ G : GG, am_gf G 58 182 = some (.ref 70)) :=
  ⟨fun _ => rfl, fun _ => rfl, fun _ => rfl, fun _ => rfl, fun _ => rfl, fun _ => rfl, fun _ => rfl, fun _ => rfl, fun _ => rfl, fun _ => rfl, fun _ => rfl, fun _ => rfl, fun _ => rfl, fun _ => rfl, fun _ => rfl, fun _ => rfl, fun _ => rfl, fun _ => rfl, fun _ => rfl, fun _ => rfl, fun _ => rfl, fun _ => rfl, fun _ => rfl, fun _ => rfl, fun _ => rfl, fun _ => rfl, fun _ => rfl, fun _ => rfl, fun _ => rfl, fun _ => rfl, fun _ => rfl, fun _ => rfl, fun _ => rfl, fun _ => rfl, fun _ => rfl, fun _ => rfl, fun _ => rfl, fun _ => rfl, fun _ => rfl, fun _ => rfl⟩
theorem am_pfs : (∀ (G : GG) (x : Int32), (x = nI 0 ∨ x = nI 1) → am_pf G 0 134 x = some (gset G 0 (upd (G 0) 6 x))) ∧
  (∀ (G : GG) (x : Int32), am_pf G 45 66 x = some (gset G 45 (upd (G 45) 2 x))) ∧
  (∀ (G : GG) (x : Int32), am_pf G 45 67 x = some (gset G 45 (upd (G 45) 3 x))) ∧
  (∀ (G : GG) (x : Int32), am_pf G 46 33 x = some (gset G 46 (upd (G 46) 1 x))) ∧
  (∀ (G : GG) (x : Int32), am_pf G 46 34 x = some (gset G 46 (upd (G 46) 2 x))) ∧
  (∀ (G : GG) (x : Int32), am_pf G 46 35 x = some (gset G 46 (upd (G 46) 3 x))) ∧
  (∀ (G : GG) (x : Int32), am_pf G 46 36 x = some (gset G 46 (upd (G 46) 4 x))) ∧
  (∀ (G : GG) (x : Int32), am_pf G 46 37 x = some (gset G 46 (upd (G 46) 5 x))) ∧
  (∀ (G : GG) (x : Int32), (x = nI 0 ∨ x = nI 1) → am_pf G 58 163 x = some (gset G 58 (upd (G 58) 3 x))) ∧
  (∀ (G : GG) (x : Int32), am_pf G 58 167 x = some (gset G 58 (upd (G 58) 7 x))) ∧
  (∀ (G : GG) (x : Int32), am_pf G 58 169 x = some (gset G 58 (upd (G 58) 9 x))) ∧
  (∀ (G : GG) (x : Int32), am_pf G 58 170 x = some (gset G 58 (upd (G 58) 10 x))) ∧
  (∀ (G : GG) (x : Int32), am_pf G 58 171 x = some (gset G 58 (upd (G 58) 11 x))) ∧
  (∀ (G : GG) (x : Int32), am_pf G 58 172 x = some (gset G 58 (upd (G 58) 12 x))) ∧
  (∀ (G : GG) (x : Int32), am_pf G 58 173 x = some (gset G 58 (upd (G 58) 13 x))) ∧
  (∀ (G : GG) (x : Int32), (x = nI 0 ∨ x = nI 1) → am_pf G 58 174 x = some (gset G 58 (upd (G 58) 14 x))) ∧
  (∀ (G : GG) (x : Int32), am_pf G 58 177 x = some (gset G 58 (upd (G 58) 17 x))) ∧
  (∀ (G : GG) (x : Int32), am_pf G 58 178 x = some (gset G 58 (upd (G 58) 18 x))) :=
  ⟨fun _ _ h => if_pos (fun _ => h), fun _ _ => rfl, fun _ _ => rfl, fun _ _ => rfl, fun _ _ => rfl, fun _ _ => rfl, fun _ _ => rfl, fun _ _ => rfl, fun _ _ h => if_pos (fun _ => h), fun _ _ => rfl, fun _ _ => rfl, fun _ _ => rfl, fun _ _ => rfl, fun _ _ => rfl, fun _ _ => rfl, fun _ _ h => if_pos (fun _ => h), fun _ _ => rfl, fun _ _ => rfl⟩
theorem am_ald_of {X : AmX} {G : GG} {o n i : Nat} (h : am_sh o = [0, n]) (hn : n < 2 ^ 31) (hi : i < n) : am_ald X G o (nI i) = some (G o i) := by
  have hc : (nI i).toNatClampNeg = i := nI_clamp (by omega)
  unfold am_ald
  rw [h]
  simp only [hc]
  rw [if_neg]
  rintro (z | z)
  · exact nI_pos (by omega) z
  · omega
theorem am_ast_of {G : GG} {o n i : Nat} {x : Int32} (h : am_sh o = [0, n]) (hn : n < 2 ^ 31) (hi : i < n) : am_ast G o (nI i) x = some (gset G o (upd (G o) i x)) := by
  have hc : (nI i).toNatClampNeg = i := nI_clamp (by omega)
  unfold am_ast
  rw [h]
  simp only [hc]
  rw [if_neg]
  rintro (z | z)
  · exact nI_pos (by omega) z
  · omega
theorem am_len_of {X : AmX} {o n : Nat} (h : am_sh o = [0, n]) : am_len X o = some n := by unfold am_len; rw [h]; rfl
theorem am_cpy_of {G : GG} {o1 o2 n1 n2 sp dp n : Nat} (h1 : am_sh o1 = [0, n1]) (h2 : am_sh o2 = [0, n2]) (b1 : n1 < 2 ^ 31) (b2 : n2 < 2 ^ 31) (e1 : sp + n ≤ n1) (e2 : dp + n ≤ n2) : am_cpy G o1 (nI sp) o2 (nI dp) (nI n) = some (gset G o2 (va_cpy (G o1) (G o2) sp dp n)) := by
  have c1 : (nI sp).toNatClampNeg = sp := nI_clamp (by omega)
  have c2 : (nI dp).toNatClampNeg = dp := nI_clamp (by omega)
  have c3 : (nI n).toNatClampNeg = n := nI_clamp (by omega)
  unfold am_cpy
  rw [h1, h2]
  simp only [c1, c2, c3]
  rw [if_pos ⟨nI_pos (by omega), nI_pos (by omega), nI_pos (by omega), e1, e2⟩]
theorem am_alds : (∀ (X : AmX) (G : GG) (i : Nat), i < 120 → am_ald X G 47 (nI i) = some (G 47 i)) ∧
  (∀ (X : AmX) (G : GG) (i : Nat), i < 7 → am_ald X G 57 (nI i) = some (G 57 i)) ∧
  (∀ (X : AmX) (G : GG) (i : Nat), i < 61 → am_ald X G 59 (nI i) = some (G 59 i)) ∧
  (∀ (X : AmX) (G : GG) (i : Nat), i < 61 → am_ald X G 60 (nI i) = some (G 60 i)) ∧
  (∀ (X : AmX) (G : GG) (i : Nat), i < 61 → am_ald X G 61 (nI i) = some (G 61 i)) ∧
  (∀ (X : AmX) (G : GG) (i : Nat), i < 8 → am_ald X G 62 (nI i) = some (G 62 i)) ∧
  (∀ (X : AmX) (G : GG) (i : Nat), i < 8 → am_ald X G 63 (nI i) = some (G 63 i)) ∧
  (∀ (X : AmX) (G : GG) (i : Nat), i < 8 → am_ald X G 64 (nI i) = some (G 64 i)) ∧
  (∀ (X : AmX) (G : GG) (i : Nat), i < 120 → am_ald X G 65 (nI i) = some (G 65 i)) ∧
  (∀ (X : AmX) (G : GG) (i : Nat), i < 480 → am_ald X G 66 (nI i) = some (G 66 i)) ∧
  (∀ (X : AmX) (G : GG) (i : Nat), i < 4 → am_ald X G 67 (nI i) = some (G 67 i)) ∧
  (∀ (X : AmX) (G : GG) (i : Nat), i < 4 → am_ald X G 68 (nI i) = some (G 68 i)) ∧
  (∀ (X : AmX) (G : GG) (i : Nat), i < 160 → am_ald X G 69 (nI i) = some (G 69 i)) ∧
  (∀ (X : AmX) (G : GG) (i : Nat), i < 40 → am_ald X G 70 (nI i) = some (G 70 i)) :=
  ⟨fun _ _ _ h => am_ald_of rfl (by decide) h, fun _ _ _ h => am_ald_of rfl (by decide) h, fun _ _ _ h => am_ald_of rfl (by decide) h, fun _ _ _ h => am_ald_of rfl (by decide) h, fun _ _ _ h => am_ald_of rfl (by decide) h, fun _ _ _ h => am_ald_of rfl (by decide) h, fun _ _ _ h => am_ald_of rfl (by decide) h, fun _ _ _ h => am_ald_of rfl (by decide) h, fun _ _ _ h => am_ald_of rfl (by decide) h, fun _ _ _ h => am_ald_of rfl (by decide) h, fun _ _ _ h => am_ald_of rfl (by decide) h, fun _ _ _ h => am_ald_of rfl (by decide) h, fun _ _ _ h => am_ald_of rfl (by decide) h, fun _ _ _ h => am_ald_of rfl (by decide) h⟩
theorem am_asts : (∀ (G : GG) (i : Nat) (x : Int32), i < 120 → am_ast G 47 (nI i) x = some (gset G 47 (upd (G 47) i x))) ∧
  (∀ (G : GG) (i : Nat) (x : Int32), i < 7 → am_ast G 57 (nI i) x = some (gset G 57 (upd (G 57) i x))) ∧
  (∀ (G : GG) (i : Nat) (x : Int32), i < 61 → am_ast G 59 (nI i) x = some (gset G 59 (upd (G 59) i x))) ∧
  (∀ (G : GG) (i : Nat) (x : Int32), i < 61 → am_ast G 60 (nI i) x = some (gset G 60 (upd (G 60) i x))) ∧
  (∀ (G : GG) (i : Nat) (x : Int32), i < 61 → am_ast G 61 (nI i) x = some (gset G 61 (upd (G 61) i x))) ∧
  (∀ (G : GG) (i : Nat) (x : Int32), i < 8 → am_ast G 62 (nI i) x = some (gset G 62 (upd (G 62) i x))) ∧
  (∀ (G : GG) (i : Nat) (x : Int32), i < 8 → am_ast G 63 (nI i) x = some (gset G 63 (upd (G 63) i x))) ∧
  (∀ (G : GG) (i : Nat) (x : Int32), i < 8 → am_ast G 64 (nI i) x = some (gset G 64 (upd (G 64) i x))) ∧
  (∀ (G : GG) (i : Nat) (x : Int32), i < 120 → am_ast G 65 (nI i) x = some (gset G 65 (upd (G 65) i x))) ∧
  (∀ (G : GG) (i : Nat) (x : Int32), i < 480 → am_ast G 66 (nI i) x = some (gset G 66 (upd (G 66) i x))) ∧
  (∀ (G : GG) (i : Nat) (x : Int32), i < 4 → am_ast G 67 (nI i) x = some (gset G 67 (upd (G 67) i x))) ∧
  (∀ (G : GG) (i : Nat) (x : Int32), i < 4 → am_ast G 68 (nI i) x = some (gset G 68 (upd (G 68) i x))) ∧
  (∀ (G : GG) (i : Nat) (x : Int32), i < 160 → am_ast G 69 (nI i) x = some (gset G 69 (upd (G 69) i x))) ∧
  (∀ (G : GG) (i : Nat) (x : Int32), i < 40 → am_ast G 70 (nI i) x = some (gset G 70 (upd (G 70) i x))) :=
  ⟨fun _ _ _ h => am_ast_of rfl (by decide) h, fun _ _ _ h => am_ast_of rfl (by decide) h, fun _ _ _ h => am_ast_of rfl (by decide) h, fun _ _ _ h => am_ast_of rfl (by decide) h, fun _ _ _ h => am_ast_of rfl (by decide) h, fun _ _ _ h => am_ast_of rfl (by decide) h, fun _ _ _ h => am_ast_of rfl (by decide) h, fun _ _ _ h => am_ast_of rfl (by decide) h, fun _ _ _ h => am_ast_of rfl (by decide) h, fun _ _ _ h => am_ast_of rfl (by decide) h, fun _ _ _ h => am_ast_of rfl (by decide) h, fun _ _ _ h => am_ast_of rfl (by decide) h, fun _ _ _ h => am_ast_of rfl (by decide) h, fun _ _ _ h => am_ast_of rfl (by decide) h⟩
theorem am_lens : (∀ X : AmX, am_len X 47 = some 120) ∧
  (∀ X : AmX, am_len X 57 = some 7) ∧
  (∀ X : AmX, am_len X 59 = some 61) ∧
  (∀ X : AmX, am_len X 60 = some 61) ∧
  (∀ X : AmX, am_len X 61 = some 61) ∧
  (∀ X : AmX, am_len X 62 = some 8) ∧
  (∀ X : AmX, am_len X 63 = some 8) ∧
  (∀ X : AmX, am_len X 64 = some 8) ∧
  (∀ X : AmX, am_len X 65 = some 120) ∧
  (∀ X : AmX, am_len X 66 = some 480) ∧
  (∀ X : AmX, am_len X 67 = some 4) ∧
  (∀ X : AmX, am_len X 68 = some 4) ∧
  (∀ X : AmX, am_len X 69 = some 160) ∧
  (∀ X : AmX, am_len X 70 = some 40) :=
  ⟨fun _ => am_len_of rfl, fun _ => am_len_of rfl, fun _ => am_len_of rfl, fun _ => am_len_of rfl, fun _ => am_len_of rfl, fun _ => am_len_of rfl, fun _ => am_len_of rfl, fun _ => am_len_of rfl, fun _ => am_len_of rfl, fun _ => am_len_of rfl, fun _ => am_len_of rfl, fun _ => am_len_of rfl, fun _ => am_len_of rfl, fun _ => am_len_of rfl⟩
def TB (b : Nat) : Prop := b = 1 ∨ b = 12 ∨ b = 23 ∨ b = 34
theorem tb1 : TB 1 := by simp [TB]
theorem tb12 : TB 12 := by simp [TB]
theorem tb23 : TB 23 := by simp [TB]
theorem tb34 : TB 34 := by simp [TB]
theorem am_gft {b : Nat} (h : TB b) : (∀ G : GG, am_gf G b 96 = some (.ref (b + 1))) ∧
  (∀ G : GG, am_gf G b 97 = some (.ref (b + 2))) ∧
  (∀ G : GG, am_gf G b 98 = some (.ref (b + 3))) ∧
  (∀ G : GG, am_gf G b 99 = some (.ref (b + 4))) ∧
  (∀ G : GG, am_gf G b 100 = some (.ref (b + 5))) ∧
  (∀ G : GG, am_gf G b 101 = some (.ref (b + 6))) ∧
  (∀ G : GG, am_gf G b 102 = some (.ref (b + 7))) ∧
  (∀ G : GG, am_gf G b 103 = some (.int (G b 7))) ∧
  (∀ G : GG, am_gf G b 104 = some (.int (G b 8))) ∧
  (∀ G : GG, am_gf G b 105 = some (.int (G b 9))) ∧
  (∀ G : GG, am_gf G b 106 = some (.ref (b + 8))) ∧
  (∀ G : GG, am_gf G b 107 = some (.ref (b + 9))) ∧
  (∀ G : GG, am_gf G b 108 = some (.ref (b + 10))) := by
  rcases h with rfl | rfl | rfl | rfl <;> exact ⟨fun _ => rfl, fun _ => rfl, fun _ => rfl, fun _ => rfl, fun _ => rfl, fun _ => rfl, fun _ => rfl, fun _ => rfl, fun _ => rfl, fun _ => rfl, fun _ => rfl, fun _ => rfl, fun _ => rfl⟩
theorem tgf0 {b : Nat} {G : GG} (h : TB b) : am_gf G b 96 = some (.ref (b + 1)) := (am_gft h).1 G
theorem tgf1 {b : Nat} {G : GG} (h : TB b) : am_gf G b 97 = some (.ref (b + 2)) := (am_gft h).2.1 G
theorem tgf2 {b : Nat} {G : GG} (h : TB b) : am_gf G b 98 = some (.ref (b + 3)) := (am_gft h).2.2.1 G
theorem tgf3 {b : Nat} {G : GG} (h : TB b) : am_gf G b 99 = some (.ref (b + 4)) := (am_gft h).2.2.2.1 G
theorem tgf4 {b : Nat} {G : GG} (h : TB b) : am_gf G b 100 = some (.ref (b + 5)) := (am_gft h).2.2.2.2.1 G
theorem tgf5 {b : Nat} {G : GG} (h : TB b) : am_gf G b 101 = some (.ref (b + 6)) := (am_gft h).2.2.2.2.2.1 G
theorem tgf6 {b : Nat} {G : GG} (h : TB b) : am_gf G b 102 = some (.ref (b + 7)) := (am_gft h).2.2.2.2.2.2.1 G
theorem tgf7 {b : Nat} {G : GG} (h : TB b) : am_gf G b 103 = some (.int (G b 7)) := (am_gft h).2.2.2.2.2.2.2.1 G
theorem tgf8 {b : Nat} {G : GG} (h : TB b) : am_gf G b 104 = some (.int (G b 8)) := (am_gft h).2.2.2.2.2.2.2.2.1 G
theorem tgf9 {b : Nat} {G : GG} (h : TB b) : am_gf G b 105 = some (.int (G b 9)) := (am_gft h).2.2.2.2.2.2.2.2.2.1 G
theorem tgf10 {b : Nat} {G : GG} (h : TB b) : am_gf G b 106 = some (.ref (b + 8)) := (am_gft h).2.2.2.2.2.2.2.2.2.2.1 G
theorem tgf11 {b : Nat} {G : GG} (h : TB b) : am_gf G b 107 = some (.ref (b + 9)) := (am_gft h).2.2.2.2.2.2.2.2.2.2.2.1 G
theorem tgf12 {b : Nat} {G : GG} (h : TB b) : am_gf G b 108 = some (.ref (b + 10)) := (am_gft h).2.2.2.2.2.2.2.2.2.2.2.2 G
theorem tpf7 {b : Nat} {G : GG} {x : Int32} (h : TB b) : am_pf G b 103 x = some (gset G b (upd (G b) 7 x)) := by rcases h with rfl | rfl | rfl | rfl <;> rfl
theorem tpf8 {b : Nat} {G : GG} {x : Int32} (h : TB b) : am_pf G b 104 x = some (gset G b (upd (G b) 8 x)) := by rcases h with rfl | rfl | rfl | rfl <;> rfl
theorem tpf9 {b : Nat} {G : GG} {x : Int32} (h : TB b) : am_pf G b 105 x = some (gset G b (upd (G b) 9 x)) := by rcases h with rfl | rfl | rfl | rfl <;> rfl
theorem tsh0 {b : Nat} (h : TB b) : am_sh (b + 1) = [0, 8] := by rcases h with rfl | rfl | rfl | rfl <;> rfl
theorem tal0 {b : Nat} {X : AmX} {G : GG} {i : Nat} (h : TB b) (hi : i < 8) : am_ald X G (b + 1) (nI i) = some (G (b + 1) i) := am_ald_of (tsh0 h) (by decide) hi
theorem tas0 {b : Nat} {G : GG} {i : Nat} {x : Int32} (h : TB b) (hi : i < 8) : am_ast G (b + 1) (nI i) x = some (gset G (b + 1) (upd (G (b + 1)) i x)) := am_ast_of (tsh0 h) (by decide) hi
theorem tln0 {b : Nat} {X : AmX} (h : TB b) : am_len X (b + 1) = some 8 := am_len_of (tsh0 h)
theorem tsh1 {b : Nat} (h : TB b) : am_sh (b + 2) = [0, 8] := by rcases h with rfl | rfl | rfl | rfl <;> rfl
theorem tal1 {b : Nat} {X : AmX} {G : GG} {i : Nat} (h : TB b) (hi : i < 8) : am_ald X G (b + 2) (nI i) = some (G (b + 2) i) := am_ald_of (tsh1 h) (by decide) hi
theorem tas1 {b : Nat} {G : GG} {i : Nat} {x : Int32} (h : TB b) (hi : i < 8) : am_ast G (b + 2) (nI i) x = some (gset G (b + 2) (upd (G (b + 2)) i x)) := am_ast_of (tsh1 h) (by decide) hi
theorem tln1 {b : Nat} {X : AmX} (h : TB b) : am_len X (b + 2) = some 8 := am_len_of (tsh1 h)
theorem tsh2 {b : Nat} (h : TB b) : am_sh (b + 3) = [0, 8] := by rcases h with rfl | rfl | rfl | rfl <;> rfl
theorem tal2 {b : Nat} {X : AmX} {G : GG} {i : Nat} (h : TB b) (hi : i < 8) : am_ald X G (b + 3) (nI i) = some (G (b + 3) i) := am_ald_of (tsh2 h) (by decide) hi
theorem tas2 {b : Nat} {G : GG} {i : Nat} {x : Int32} (h : TB b) (hi : i < 8) : am_ast G (b + 3) (nI i) x = some (gset G (b + 3) (upd (G (b + 3)) i x)) := am_ast_of (tsh2 h) (by decide) hi
theorem tln2 {b : Nat} {X : AmX} (h : TB b) : am_len X (b + 3) = some 8 := am_len_of (tsh2 h)
theorem tsh3 {b : Nat} (h : TB b) : am_sh (b + 4) = [0, 8] := by rcases h with rfl | rfl | rfl | rfl <;> rfl
theorem tal3 {b : Nat} {X : AmX} {G : GG} {i : Nat} (h : TB b) (hi : i < 8) : am_ald X G (b + 4) (nI i) = some (G (b + 4) i) := am_ald_of (tsh3 h) (by decide) hi
theorem tas3 {b : Nat} {G : GG} {i : Nat} {x : Int32} (h : TB b) (hi : i < 8) : am_ast G (b + 4) (nI i) x = some (gset G (b + 4) (upd (G (b + 4)) i x)) := am_ast_of (tsh3 h) (by decide) hi
theorem tln3 {b : Nat} {X : AmX} (h : TB b) : am_len X (b + 4) = some 8 := am_len_of (tsh3 h)
theorem tsh4 {b : Nat} (h : TB b) : am_sh (b + 5) = [0, 8] := by rcases h with rfl | rfl | rfl | rfl <;> rfl
theorem tal4 {b : Nat} {X : AmX} {G : GG} {i : Nat} (h : TB b) (hi : i < 8) : am_ald X G (b + 5) (nI i) = some (G (b + 5) i) := am_ald_of (tsh4 h) (by decide) hi
theorem tas4 {b : Nat} {G : GG} {i : Nat} {x : Int32} (h : TB b) (hi : i < 8) : am_ast G (b + 5) (nI i) x = some (gset G (b + 5) (upd (G (b + 5)) i x)) := am_ast_of (tsh4 h) (by decide) hi
theorem tln4 {b : Nat} {X : AmX} (h : TB b) : am_len X (b + 5) = some 8 := am_len_of (tsh4 h)
theorem tsh5 {b : Nat} (h : TB b) : am_sh (b + 6) = [0, 8] := by rcases h with rfl | rfl | rfl | rfl <;> rfl
theorem tal5 {b : Nat} {X : AmX} {G : GG} {i : Nat} (h : TB b) (hi : i < 8) : am_ald X G (b + 6) (nI i) = some (G (b + 6) i) := am_ald_of (tsh5 h) (by decide) hi
theorem tas5 {b : Nat} {G : GG} {i : Nat} {x : Int32} (h : TB b) (hi : i < 8) : am_ast G (b + 6) (nI i) x = some (gset G (b + 6) (upd (G (b + 6)) i x)) := am_ast_of (tsh5 h) (by decide) hi
theorem tln5 {b : Nat} {X : AmX} (h : TB b) : am_len X (b + 6) = some 8 := am_len_of (tsh5 h)
theorem tsh6 {b : Nat} (h : TB b) : am_sh (b + 7) = [0, 10] := by rcases h with rfl | rfl | rfl | rfl <;> rfl
theorem tal6 {b : Nat} {X : AmX} {G : GG} {i : Nat} (h : TB b) (hi : i < 10) : am_ald X G (b + 7) (nI i) = some (G (b + 7) i) := am_ald_of (tsh6 h) (by decide) hi
theorem tas6 {b : Nat} {G : GG} {i : Nat} {x : Int32} (h : TB b) (hi : i < 10) : am_ast G (b + 7) (nI i) x = some (gset G (b + 7) (upd (G (b + 7)) i x)) := am_ast_of (tsh6 h) (by decide) hi
theorem tln6 {b : Nat} {X : AmX} (h : TB b) : am_len X (b + 7) = some 10 := am_len_of (tsh6 h)
theorem tsh7 {b : Nat} (h : TB b) : am_sh (b + 8) = [0, 8] := by rcases h with rfl | rfl | rfl | rfl <;> rfl
theorem tal7 {b : Nat} {X : AmX} {G : GG} {i : Nat} (h : TB b) (hi : i < 8) : am_ald X G (b + 8) (nI i) = some (G (b + 8) i) := am_ald_of (tsh7 h) (by decide) hi
theorem tas7 {b : Nat} {G : GG} {i : Nat} {x : Int32} (h : TB b) (hi : i < 8) : am_ast G (b + 8) (nI i) x = some (gset G (b + 8) (upd (G (b + 8)) i x)) := am_ast_of (tsh7 h) (by decide) hi
theorem tln7 {b : Nat} {X : AmX} (h : TB b) : am_len X (b + 8) = some 8 := am_len_of (tsh7 h)
theorem tsh8 {b : Nat} (h : TB b) : am_sh (b + 9) = [0, 8] := by rcases h with rfl | rfl | rfl | rfl <;> rfl
theorem tal8 {b : Nat} {X : AmX} {G : GG} {i : Nat} (h : TB b) (hi : i < 8) : am_ald X G (b + 9) (nI i) = some (G (b + 9) i) := am_ald_of (tsh8 h) (by decide) hi
theorem tas8 {b : Nat} {G : GG} {i : Nat} {x : Int32} (h : TB b) (hi : i < 8) : am_ast G (b + 9) (nI i) x = some (gset G (b + 9) (upd (G (b + 9)) i x)) := am_ast_of (tsh8 h) (by decide) hi
theorem tln8 {b : Nat} {X : AmX} (h : TB b) : am_len X (b + 9) = some 8 := am_len_of (tsh8 h)
theorem tsh9 {b : Nat} (h : TB b) : am_sh (b + 10) = [0, 8] := by rcases h with rfl | rfl | rfl | rfl <;> rfl
theorem tal9 {b : Nat} {X : AmX} {G : GG} {i : Nat} (h : TB b) (hi : i < 8) : am_ald X G (b + 10) (nI i) = some (G (b + 10) i) := am_ald_of (tsh9 h) (by decide) hi
theorem tas9 {b : Nat} {G : GG} {i : Nat} {x : Int32} (h : TB b) (hi : i < 8) : am_ast G (b + 10) (nI i) x = some (gset G (b + 10) (upd (G (b + 10)) i x)) := am_ast_of (tsh9 h) (by decide) hi
theorem tln9 {b : Nat} {X : AmX} (h : TB b) : am_len X (b + 10) = some 8 := am_len_of (tsh9 h)
theorem tcls {b : Nat} (h : TB b) : am_clsof b = 3 := by rcases h with rfl | rfl | rfl | rfl <;> rfl
theorem TB.lt {b : Nat} (h : TB b) : b < 500 := by rcases h with rfl | rfl | rfl | rfl <;> decide
def SB (b : Nat) : Prop := b = 49 ∨ b = 51 ∨ b = 53 ∨ b = 55
theorem sb49 : SB 49 := by simp [SB]
theorem sb51 : SB 51 := by simp [SB]
theorem sb53 : SB 53 := by simp [SB]
theorem sb55 : SB 55 := by simp [SB]
theorem SB.of {s : Nat} (h : s < 4) : SB (49 + 2 * s) := by unfold SB; omega
theorem SB.lt {b : Nat} (h : SB b) : b < 500 := by rcases h with rfl | rfl | rfl | rfl <;> decide
theorem scls {b : Nat} (h : SB b) : am_clsof b = 0 := by rcases h with rfl | rfl | rfl | rfl <;> rfl
theorem sgf0 {b : Nat} {G : GG} (h : SB b) : am_gf G b 0 = some (.ref (b + 1)) := by rcases h with rfl | rfl | rfl | rfl <;> rfl
theorem sgf1 {b : Nat} {G : GG} (h : SB b) : am_gf G b 1 = some (.int (G b 1)) := by rcases h with rfl | rfl | rfl | rfl <;> rfl
theorem sgf2 {b : Nat} {G : GG} (h : SB b) : am_gf G b 2 = some (.int (G b 2)) := by rcases h with rfl | rfl | rfl | rfl <;> rfl
theorem spf1 {b : Nat} {G : GG} {x : Int32} (h : SB b) : am_pf G b 1 x = some (gset G b (upd (G b) 1 x)) := by rcases h with rfl | rfl | rfl | rfl <;> rfl
theorem spf2 {b : Nat} {G : GG} {x : Int32} (h : SB b) : am_pf G b 2 x = some (gset G b (upd (G b) 2 x)) := by rcases h with rfl | rfl | rfl | rfl <;> rfl
theorem ssh {b : Nat} (h : SB b) : am_sh (b + 1) = [0, 40] := by rcases h with rfl | rfl | rfl | rfl <;> rfl
theorem sal {b : Nat} {X : AmX} {G : GG} {i : Nat} (h : SB b) (hi : i < 40) : am_ald X G (b + 1) (nI i) = some (G (b + 1) i) := am_ald_of (ssh h) (by decide) hi
theorem sas {b : Nat} {G : GG} {i : Nat} {x : Int32} (h : SB b) (hi : i < 40) : am_ast G (b + 1) (nI i) x = some (gset G (b + 1) (upd (G (b + 1)) i x)) := am_ast_of (ssh h) (by decide) hi
theorem sln {b : Nat} {X : AmX} (h : SB b) : am_len X (b + 1) = some 40 := am_len_of (ssh h)
theorem am_qld48 {s : Nat} (h : s < 4) : am_qld 48 (nI s) = some (49 + 2 * s) := by
  rcases (by omega : s = 0 ∨ s = 1 ∨ s = 2 ∨ s = 3) with rfl | rfl | rfl | rfl <;> rfl
theorem am_qld71 {s : Nat} (h : s < 7) : am_qld 71 (nI s) = some (100 + s) := by
  rcases (by omega : s = 0 ∨ s = 1 ∨ s = 2 ∨ s = 3 ∨ s = 4 ∨ s = 5 ∨ s = 6) with rfl | rfl | rfl | rfl | rfl | rfl | rfl <;> rfl
theorem am_len71 {X : AmX} : am_len X 71 = some 7 := rfl
theorem am_ald300 {X : AmX} {G : GG} {i : Nat} (h : i < 7) : am_ald X G 300 (nI i) = some (tt_above i) := by
  rcases (by omega : i = 0 ∨ i = 1 ∨ i = 2 ∨ i = 3 ∨ i = 4 ∨ i = 5 ∨ i = 6) with rfl | rfl | rfl | rfl | rfl | rfl | rfl <;> rfl
end
section
/-! ===== the blocks of each method as rules: printed by program ===== -/
theorem bk0_0 : am_blk 0 0 = am_B0_0 := rfl
theorem bh0_5 : am_blk 0 5 = am_B0_5 := rfl
theorem bn0_5 : am_blk 0 (Int.toNat 5) = am_blk 0 5 := rfl
theorem bk0_20 : am_blk 0 (Int.toNat 20) = am_B0_20 := rfl
theorem bs0 : am_blk 0 0 = am_B0_0 ∧ am_blk 0 (Int.toNat 5) = am_blk 0 5 ∧ am_blk 0 (Int.toNat 20) = am_B0_20 := ⟨rfl, rfl, rfl⟩
theorem bk1_0 : am_blk 1 0 = am_B1_0 := rfl
theorem bs1 : am_blk 1 0 = am_B1_0 := rfl
theorem bk2_0 : am_blk 2 0 = am_B2_0 := rfl
theorem bs2 : am_blk 2 0 = am_B2_0 := rfl
theorem bk3_0 : am_blk 3 0 = am_B3_0 := rfl
theorem bk3_13 : am_blk 3 (Int.toNat 13) = am_B3_13 := rfl
theorem bk3_14 : am_blk 3 (Int.toNat 14) = am_B3_14 := rfl
theorem bs3 : am_blk 3 0 = am_B3_0 ∧ am_blk 3 (Int.toNat 13) = am_B3_13 ∧ am_blk 3 (Int.toNat 14) = am_B3_14 := ⟨rfl, rfl, rfl⟩
theorem bk4_0 : am_blk 4 0 = am_B4_0 := rfl
theorem bs4 : am_blk 4 0 = am_B4_0 := rfl
theorem bk5_0 : am_blk 5 0 = am_B5_0 := rfl
theorem bk5_17 : am_blk 5 (Int.toNat 17) = am_B5_17 := rfl
theorem bk5_18 : am_blk 5 (Int.toNat 18) = am_B5_18 := rfl
theorem bs5 : am_blk 5 0 = am_B5_0 ∧ am_blk 5 (Int.toNat 17) = am_B5_17 ∧ am_blk 5 (Int.toNat 18) = am_B5_18 := ⟨rfl, rfl, rfl⟩
theorem bk6_0 : am_blk 6 0 = am_B6_0 := rfl
theorem bs6 : am_blk 6 0 = am_B6_0 := rfl
theorem bk7_0 : am_blk 7 0 = am_B7_0 := rfl
theorem bs7 : am_blk 7 0 = am_B7_0 := rfl
theorem bk8_0 : am_blk 8 0 = am_B8_0 := rfl
theorem bk8_16 : am_blk 8 (Int.toNat 16) = am_B8_16 := rfl
theorem bs8 : am_blk 8 0 = am_B8_0 ∧ am_blk 8 (Int.toNat 16) = am_B8_16 := ⟨rfl, rfl⟩
theorem bk9_0 : am_blk 9 0 = am_B9_0 := rfl
theorem bk9_18 : am_blk 9 (Int.toNat 18) = am_B9_18 := rfl
theorem bk9_25 : am_blk 9 (Int.toNat 25) = am_B9_25 := rfl
theorem bs9 : am_blk 9 0 = am_B9_0 ∧ am_blk 9 (Int.toNat 18) = am_B9_18 ∧ am_blk 9 (Int.toNat 25) = am_B9_25 := ⟨rfl, rfl, rfl⟩
theorem bk10_0 : am_blk 10 0 = am_B10_0 := rfl
theorem bk10_14 : am_blk 10 (Int.toNat 14) = am_B10_14 := rfl
theorem bk10_15 : am_blk 10 (Int.toNat 15) = am_B10_15 := rfl
theorem bs10 : am_blk 10 0 = am_B10_0 ∧ am_blk 10 (Int.toNat 14) = am_B10_14 ∧ am_blk 10 (Int.toNat 15) = am_B10_15 := ⟨rfl, rfl, rfl⟩
theorem bk11_0 : am_blk 11 0 = am_B11_0 := rfl
theorem bk11_14 : am_blk 11 (Int.toNat 14) = am_B11_14 := rfl
theorem bk11_15 : am_blk 11 (Int.toNat 15) = am_B11_15 := rfl
theorem bs11 : am_blk 11 0 = am_B11_0 ∧ am_blk 11 (Int.toNat 14) = am_B11_14 ∧ am_blk 11 (Int.toNat 15) = am_B11_15 := ⟨rfl, rfl, rfl⟩
theorem bk12_0 : am_blk 12 0 = am_B12_0 := rfl
theorem bk12_25 : am_blk 12 (Int.toNat 25) = am_B12_25 := rfl
theorem bs12 : am_blk 12 0 = am_B12_0 ∧ am_blk 12 (Int.toNat 25) = am_B12_25 := ⟨rfl, rfl⟩
theorem bk13_0 : am_blk 13 0 = am_B13_0 := rfl
theorem bk13_26 : am_blk 13 (Int.toNat 26) = am_B13_26 := rfl
theorem bk13_32 : am_blk 13 (Int.toNat 32) = am_B13_32 := rfl
theorem bs13 : am_blk 13 0 = am_B13_0 ∧ am_blk 13 (Int.toNat 26) = am_B13_26 ∧ am_blk 13 (Int.toNat 32) = am_B13_32 := ⟨rfl, rfl, rfl⟩
theorem bk14_0 : am_blk 14 0 = am_B14_0 := rfl
theorem bs14 : am_blk 14 0 = am_B14_0 := rfl
theorem bk15_0 : am_blk 15 0 = am_B15_0 := rfl
theorem bk15_14 : am_blk 15 (Int.toNat 14) = am_B15_14 := rfl
theorem bk15_15 : am_blk 15 (Int.toNat 15) = am_B15_15 := rfl
theorem bs15 : am_blk 15 0 = am_B15_0 ∧ am_blk 15 (Int.toNat 14) = am_B15_14 ∧ am_blk 15 (Int.toNat 15) = am_B15_15 := ⟨rfl, rfl, rfl⟩
theorem bk16_0 : am_blk 16 0 = am_B16_0 := rfl
theorem bs16 : am_blk 16 0 = am_B16_0 := rfl
theorem bk17_0 : am_blk 17 0 = am_B17_0 := rfl
theorem bs17 : am_blk 17 0 = am_B17_0 := rfl
theorem bk18_0 : am_blk 18 0 = am_B18_0 := rfl
theorem bs18 : am_blk 18 0 = am_B18_0 := rfl
theorem bk19_0 : am_blk 19 0 = am_B19_0 := rfl
theorem bk19_16 : am_blk 19 (Int.toNat 16) = am_B19_16 := rfl
theorem bk19_23 : am_blk 19 (Int.toNat 23) = am_B19_23 := rfl
theorem bk19_37 : am_blk 19 (Int.toNat 37) = am_B19_37 := rfl
theorem bk19_60 : am_blk 19 (Int.toNat 60) = am_B19_60 := rfl
theorem bk19_68 : am_blk 19 (Int.toNat 68) = am_B19_68 := rfl
theorem bs19 : am_blk 19 0 = am_B19_0 ∧ am_blk 19 (Int.toNat 16) = am_B19_16 ∧ am_blk 19 (Int.toNat 23) = am_B19_23 ∧ am_blk 19 (Int.toNat 37) = am_B19_37 ∧ am_blk 19 (Int.toNat 60) = am_B19_60 ∧ am_blk 19 (Int.toNat 68) = am_B19_68 := ⟨rfl, rfl, rfl, rfl, rfl, rfl⟩
theorem bk20_0 : am_blk 20 0 = am_B20_0 := rfl
theorem bh20_18 : am_blk 20 18 = am_B20_18 := rfl
theorem bn20_18 : am_blk 20 (Int.toNat 18) = am_blk 20 18 := rfl
theorem bk20_53 : am_blk 20 (Int.toNat 53) = am_B20_53 := rfl
theorem bk20_59 : am_blk 20 (Int.toNat 59) = am_B20_59 := rfl
theorem bh20_61 : am_blk 20 61 = am_B20_61 := rfl
theorem bn20_61 : am_blk 20 (Int.toNat 61) = am_blk 20 61 := rfl
theorem bk20_99 : am_blk 20 (Int.toNat 99) = am_B20_99 := rfl
theorem bk20_105 : am_blk 20 (Int.toNat 105) = am_B20_105 := rfl
theorem bs20 : am_blk 20 0 = am_B20_0 ∧ am_blk 20 (Int.toNat 18) = am_blk 20 18 ∧ am_blk 20 (Int.toNat 53) = am_B20_53 ∧ am_blk 20 (Int.toNat 59) = am_B20_59 ∧ am_blk 20 (Int.toNat 61) = am_blk 20 61 ∧ am_blk 20 (Int.toNat 99) = am_B20_99 ∧ am_blk 20 (Int.toNat 105) = am_B20_105 := ⟨rfl, rfl, rfl, rfl, rfl, rfl, rfl⟩
theorem bk21_0 : am_blk 21 0 = am_B21_0 := rfl
theorem bk21_16 : am_blk 21 (Int.toNat 16) = am_B21_16 := rfl
theorem bh21_55 : am_blk 21 55 = am_B21_55 := rfl
theorem bn21_55 : am_blk 21 (Int.toNat 55) = am_blk 21 55 := rfl
theorem bk21_85 : am_blk 21 (Int.toNat 85) = am_B21_85 := rfl
theorem bk21_91 : am_blk 21 (Int.toNat 91) = am_B21_91 := rfl
theorem bs21 : am_blk 21 0 = am_B21_0 ∧ am_blk 21 (Int.toNat 16) = am_B21_16 ∧ am_blk 21 (Int.toNat 55) = am_blk 21 55 ∧ am_blk 21 (Int.toNat 85) = am_B21_85 ∧ am_blk 21 (Int.toNat 91) = am_B21_91 := ⟨rfl, rfl, rfl, rfl, rfl⟩
theorem bk22_0 : am_blk 22 0 = am_B22_0 := rfl
theorem bk22_14 : am_blk 22 (Int.toNat 14) = am_B22_14 := rfl
theorem bk22_15 : am_blk 22 (Int.toNat 15) = am_B22_15 := rfl
theorem bk22_30 : am_blk 22 (Int.toNat 30) = am_B22_30 := rfl
theorem bk22_31 : am_blk 22 (Int.toNat 31) = am_B22_31 := rfl
theorem bk22_53 : am_blk 22 (Int.toNat 53) = am_B22_53 := rfl
theorem bk22_54 : am_blk 22 (Int.toNat 54) = am_B22_54 := rfl
theorem bk22_70 : am_blk 22 (Int.toNat 70) = am_B22_70 := rfl
theorem bk22_71 : am_blk 22 (Int.toNat 71) = am_B22_71 := rfl
theorem bk22_111 : am_blk 22 (Int.toNat 111) = am_B22_111 := rfl
theorem bk22_112 : am_blk 22 (Int.toNat 112) = am_B22_112 := rfl
theorem bk22_160 : am_blk 22 (Int.toNat 160) = am_B22_160 := rfl
theorem bk22_163 : am_blk 22 (Int.toNat 163) = am_B22_163 := rfl
theorem bk22_169 : am_blk 22 (Int.toNat 169) = am_B22_169 := rfl
theorem bk22_180 : am_blk 22 (Int.toNat 180) = am_B22_180 := rfl
theorem bk22_197 : am_blk 22 (Int.toNat 197) = am_B22_197 := rfl
theorem bk22_205 : am_blk 22 (Int.toNat 205) = am_B22_205 := rfl
theorem bk22_206 : am_blk 22 (Int.toNat 206) = am_B22_206 := rfl
theorem bk22_207 : am_blk 22 (Int.toNat 207) = am_B22_207 := rfl
theorem bk22_216 : am_blk 22 (Int.toNat 216) = am_B22_216 := rfl
theorem bk22_217 : am_blk 22 (Int.toNat 217) = am_B22_217 := rfl
theorem bk22_218 : am_blk 22 (Int.toNat 218) = am_B22_218 := rfl
theorem bs22 : am_blk 22 0 = am_B22_0 ∧ am_blk 22 (Int.toNat 14) = am_B22_14 ∧ am_blk 22 (Int.toNat 15) = am_B22_15 ∧ am_blk 22 (Int.toNat 30) = am_B22_30 ∧ am_blk 22 (Int.toNat 31) = am_B22_31 ∧ am_blk 22 (Int.toNat 53) = am_B22_53 ∧ am_blk 22 (Int.toNat 54) = am_B22_54 ∧ am_blk 22 (Int.toNat 70) = am_B22_70 ∧ am_blk 22 (Int.toNat 71) = am_B22_71 ∧ am_blk 22 (Int.toNat 111) = am_B22_111 ∧ am_blk 22 (Int.toNat 112) = am_B22_112 ∧ am_blk 22 (Int.toNat 160) = am_B22_160 ∧ am_blk 22 (Int.toNat 163) = am_B22_163 ∧ am_blk 22 (Int.toNat 169) = am_B22_169 ∧ am_blk 22 (Int.toNat 180) = am_B22_180 ∧ am_blk 22 (Int.toNat 197) = am_B22_197 ∧ am_blk 22 (Int.toNat 205) = am_B22_205 ∧ am_blk 22 (Int.toNat 206) = am_B22_206 ∧ am_blk 22 (Int.toNat 207) = am_B22_207 ∧ am_blk 22 (Int.toNat 216) = am_B22_216 ∧ am_blk 22 (Int.toNat 217) = am_B22_217 ∧ am_blk 22 (Int.toNat 218) = am_B22_218 := ⟨rfl, rfl, rfl, rfl, rfl, rfl, rfl, rfl, rfl, rfl, rfl, rfl, rfl, rfl, rfl, rfl, rfl, rfl, rfl, rfl, rfl, rfl⟩
theorem bk23_0 : am_blk 23 0 = am_B23_0 := rfl
theorem bh23_4 : am_blk 23 4 = am_B23_4 := rfl
theorem bn23_4 : am_blk 23 (Int.toNat 4) = am_blk 23 4 := rfl
theorem bk23_29 : am_blk 23 (Int.toNat 29) = am_B23_29 := rfl
theorem bk23_30 : am_blk 23 (Int.toNat 30) = am_B23_30 := rfl
theorem bk23_38 : am_blk 23 (Int.toNat 38) = am_B23_38 := rfl
theorem bs23 : am_blk 23 0 = am_B23_0 ∧ am_blk 23 (Int.toNat 4) = am_blk 23 4 ∧ am_blk 23 (Int.toNat 29) = am_B23_29 ∧ am_blk 23 (Int.toNat 30) = am_B23_30 ∧ am_blk 23 (Int.toNat 38) = am_B23_38 := ⟨rfl, rfl, rfl, rfl, rfl⟩
theorem bk24_0 : am_blk 24 0 = am_B24_0 := rfl
theorem bh24_4 : am_blk 24 4 = am_B24_4 := rfl
theorem bn24_4 : am_blk 24 (Int.toNat 4) = am_blk 24 4 := rfl
theorem bk24_29 : am_blk 24 (Int.toNat 29) = am_B24_29 := rfl
theorem bk24_30 : am_blk 24 (Int.toNat 30) = am_B24_30 := rfl
theorem bk24_38 : am_blk 24 (Int.toNat 38) = am_B24_38 := rfl
theorem bs24 : am_blk 24 0 = am_B24_0 ∧ am_blk 24 (Int.toNat 4) = am_blk 24 4 ∧ am_blk 24 (Int.toNat 29) = am_B24_29 ∧ am_blk 24 (Int.toNat 30) = am_B24_30 ∧ am_blk 24 (Int.toNat 38) = am_B24_38 := ⟨rfl, rfl, rfl, rfl, rfl⟩
theorem bk25_0 : am_blk 25 0 = am_B25_0 := rfl
theorem bk25_16 : am_blk 25 (Int.toNat 16) = am_B25_16 := rfl
theorem bk25_23 : am_blk 25 (Int.toNat 23) = am_B25_23 := rfl
theorem bk25_43 : am_blk 25 (Int.toNat 43) = am_B25_43 := rfl
theorem bk25_56 : am_blk 25 (Int.toNat 56) = am_B25_56 := rfl
theorem bk25_61 : am_blk 25 (Int.toNat 61) = am_B25_61 := rfl
theorem bs25 : am_blk 25 0 = am_B25_0 ∧ am_blk 25 (Int.toNat 16) = am_B25_16 ∧ am_blk 25 (Int.toNat 23) = am_B25_23 ∧ am_blk 25 (Int.toNat 43) = am_B25_43 ∧ am_blk 25 (Int.toNat 56) = am_B25_56 ∧ am_blk 25 (Int.toNat 61) = am_B25_61 := ⟨rfl, rfl, rfl, rfl, rfl, rfl⟩
theorem bk26_0 : am_blk 26 0 = am_B26_0 := rfl
theorem bh26_2 : am_blk 26 2 = am_B26_2 := rfl
theorem bn26_2 : am_blk 26 (Int.toNat 2) = am_blk 26 2 := rfl
theorem bk26_29 : am_blk 26 (Int.toNat 29) = am_B26_29 := rfl
theorem bk26_34 : am_blk 26 (Int.toNat 34) = am_B26_34 := rfl
theorem bk26_41 : am_blk 26 (Int.toNat 41) = am_B26_41 := rfl
theorem bh26_43 : am_blk 26 43 = am_B26_43 := rfl
theorem bn26_43 : am_blk 26 (Int.toNat 43) = am_blk 26 43 := rfl
theorem bk26_70 : am_blk 26 (Int.toNat 70) = am_B26_70 := rfl
theorem bk26_98 : am_blk 26 (Int.toNat 98) = am_B26_98 := rfl
theorem bk26_105 : am_blk 26 (Int.toNat 105) = am_B26_105 := rfl
theorem bs26 : am_blk 26 0 = am_B26_0 ∧ am_blk 26 (Int.toNat 2) = am_blk 26 2 ∧ am_blk 26 (Int.toNat 29) = am_B26_29 ∧ am_blk 26 (Int.toNat 34) = am_B26_34 ∧ am_blk 26 (Int.toNat 41) = am_B26_41 ∧ am_blk 26 (Int.toNat 43) = am_blk 26 43 ∧ am_blk 26 (Int.toNat 70) = am_B26_70 ∧ am_blk 26 (Int.toNat 98) = am_B26_98 ∧ am_blk 26 (Int.toNat 105) = am_B26_105 := ⟨rfl, rfl, rfl, rfl, rfl, rfl, rfl, rfl, rfl⟩
theorem bk27_0 : am_blk 27 0 = am_B27_0 := rfl
theorem bh27_17 : am_blk 27 17 = am_B27_17 := rfl
theorem bn27_17 : am_blk 27 (Int.toNat 17) = am_blk 27 17 := rfl
theorem bk27_56 : am_blk 27 (Int.toNat 56) = am_B27_56 := rfl
theorem bk27_62 : am_blk 27 (Int.toNat 62) = am_B27_62 := rfl
theorem bs27 : am_blk 27 0 = am_B27_0 ∧ am_blk 27 (Int.toNat 17) = am_blk 27 17 ∧ am_blk 27 (Int.toNat 56) = am_B27_56 ∧ am_blk 27 (Int.toNat 62) = am_B27_62 := ⟨rfl, rfl, rfl, rfl⟩
theorem bk28_0 : am_blk 28 0 = am_B28_0 := rfl
theorem bs28 : am_blk 28 0 = am_B28_0 := rfl
theorem bk29_0 : am_blk 29 0 = am_B29_0 := rfl
theorem bs29 : am_blk 29 0 = am_B29_0 := rfl
theorem bk30_0 : am_blk 30 0 = am_B30_0 := rfl
theorem bk30_21 : am_blk 30 (Int.toNat 21) = am_B30_21 := rfl
theorem bk30_22 : am_blk 30 (Int.toNat 22) = am_B30_22 := rfl
theorem bk30_68 : am_blk 30 (Int.toNat 68) = am_B30_68 := rfl
theorem bk30_84 : am_blk 30 (Int.toNat 84) = am_B30_84 := rfl
theorem bk30_85 : am_blk 30 (Int.toNat 85) = am_B30_85 := rfl
theorem bk30_86 : am_blk 30 (Int.toNat 86) = am_B30_86 := rfl
theorem bk30_94 : am_blk 30 (Int.toNat 94) = am_B30_94 := rfl
theorem bk30_106 : am_blk 30 (Int.toNat 106) = am_B30_106 := rfl
theorem bk30_118 : am_blk 30 (Int.toNat 118) = am_B30_118 := rfl
theorem bk30_127 : am_blk 30 (Int.toNat 127) = am_B30_127 := rfl
theorem bk30_128 : am_blk 30 (Int.toNat 128) = am_B30_128 := rfl
theorem bk30_129 : am_blk 30 (Int.toNat 129) = am_B30_129 := rfl
theorem bk30_150 : am_blk 30 (Int.toNat 150) = am_B30_150 := rfl
theorem bk30_151 : am_blk 30 (Int.toNat 151) = am_B30_151 := rfl
theorem bk30_152 : am_blk 30 (Int.toNat 152) = am_B30_152 := rfl
theorem bs30 : am_blk 30 0 = am_B30_0 ∧ am_blk 30 (Int.toNat 21) = am_B30_21 ∧ am_blk 30 (Int.toNat 22) = am_B30_22 ∧ am_blk 30 (Int.toNat 68) = am_B30_68 ∧ am_blk 30 (Int.toNat 84) = am_B30_84 ∧ am_blk 30 (Int.toNat 85) = am_B30_85 ∧ am_blk 30 (Int.toNat 86) = am_B30_86 ∧ am_blk 30 (Int.toNat 94) = am_B30_94 ∧ am_blk 30 (Int.toNat 106) = am_B30_106 ∧ am_blk 30 (Int.toNat 118) = am_B30_118 ∧ am_blk 30 (Int.toNat 127) = am_B30_127 ∧ am_blk 30 (Int.toNat 128) = am_B30_128 ∧ am_blk 30 (Int.toNat 129) = am_B30_129 ∧ am_blk 30 (Int.toNat 150) = am_B30_150 ∧ am_blk 30 (Int.toNat 151) = am_B30_151 ∧ am_blk 30 (Int.toNat 152) = am_B30_152 := ⟨rfl, rfl, rfl, rfl, rfl, rfl, rfl, rfl, rfl, rfl, rfl, rfl, rfl, rfl, rfl, rfl⟩
theorem bk31_0 : am_blk 31 0 = am_B31_0 := rfl
theorem bs31 : am_blk 31 0 = am_B31_0 := rfl
theorem bk32_0 : am_blk 32 0 = am_B32_0 := rfl
theorem bh32_4 : am_blk 32 4 = am_B32_4 := rfl
theorem bn32_4 : am_blk 32 (Int.toNat 4) = am_blk 32 4 := rfl
theorem bk32_39 : am_blk 32 (Int.toNat 39) = am_B32_39 := rfl
theorem bk32_40 : am_blk 32 (Int.toNat 40) = am_B32_40 := rfl
theorem bk32_48 : am_blk 32 (Int.toNat 48) = am_B32_48 := rfl
theorem bs32 : am_blk 32 0 = am_B32_0 ∧ am_blk 32 (Int.toNat 4) = am_blk 32 4 ∧ am_blk 32 (Int.toNat 39) = am_B32_39 ∧ am_blk 32 (Int.toNat 40) = am_B32_40 ∧ am_blk 32 (Int.toNat 48) = am_B32_48 := ⟨rfl, rfl, rfl, rfl, rfl⟩
theorem bk33_0 : am_blk 33 0 = am_B33_0 := rfl
theorem bh33_4 : am_blk 33 4 = am_B33_4 := rfl
theorem bn33_4 : am_blk 33 (Int.toNat 4) = am_blk 33 4 := rfl
theorem bk33_20 : am_blk 33 (Int.toNat 20) = am_B33_20 := rfl
theorem bs33 : am_blk 33 0 = am_B33_0 ∧ am_blk 33 (Int.toNat 4) = am_blk 33 4 ∧ am_blk 33 (Int.toNat 20) = am_B33_20 := ⟨rfl, rfl, rfl⟩
theorem bk34_0 : am_blk 34 0 = am_B34_0 := rfl
theorem bk34_37 : am_blk 34 (Int.toNat 37) = am_B34_37 := rfl
theorem bk34_38 : am_blk 34 (Int.toNat 38) = am_B34_38 := rfl
theorem bk34_63 : am_blk 34 (Int.toNat 63) = am_B34_63 := rfl
theorem bk34_64 : am_blk 34 (Int.toNat 64) = am_B34_64 := rfl
theorem bs34 : am_blk 34 0 = am_B34_0 ∧ am_blk 34 (Int.toNat 37) = am_B34_37 ∧ am_blk 34 (Int.toNat 38) = am_B34_38 ∧ am_blk 34 (Int.toNat 63) = am_B34_63 ∧ am_blk 34 (Int.toNat 64) = am_B34_64 := ⟨rfl, rfl, rfl, rfl, rfl⟩
theorem bk35_0 : am_blk 35 0 = am_B35_0 := rfl
theorem bk35_24 : am_blk 35 (Int.toNat 24) = am_B35_24 := rfl
theorem bk35_25 : am_blk 35 (Int.toNat 25) = am_B35_25 := rfl
theorem bs35 : am_blk 35 0 = am_B35_0 ∧ am_blk 35 (Int.toNat 24) = am_B35_24 ∧ am_blk 35 (Int.toNat 25) = am_B35_25 := ⟨rfl, rfl, rfl⟩
theorem bk36_0 : am_blk 36 0 = am_B36_0 := rfl
theorem bh36_4 : am_blk 36 4 = am_B36_4 := rfl
theorem bn36_4 : am_blk 36 (Int.toNat 4) = am_blk 36 4 := rfl
theorem bk36_31 : am_blk 36 (Int.toNat 31) = am_B36_31 := rfl
theorem bk36_32 : am_blk 36 (Int.toNat 32) = am_B36_32 := rfl
theorem bk36_40 : am_blk 36 (Int.toNat 40) = am_B36_40 := rfl
theorem bs36 : am_blk 36 0 = am_B36_0 ∧ am_blk 36 (Int.toNat 4) = am_blk 36 4 ∧ am_blk 36 (Int.toNat 31) = am_B36_31 ∧ am_blk 36 (Int.toNat 32) = am_B36_32 ∧ am_blk 36 (Int.toNat 40) = am_B36_40 := ⟨rfl, rfl, rfl, rfl, rfl⟩
theorem bk37_0 : am_blk 37 0 = am_B37_0 := rfl
theorem bk37_14 : am_blk 37 (Int.toNat 14) = am_B37_14 := rfl
theorem bk37_21 : am_blk 37 (Int.toNat 21) = am_B37_21 := rfl
theorem bk37_45 : am_blk 37 (Int.toNat 45) = am_B37_45 := rfl
theorem bk37_46 : am_blk 37 (Int.toNat 46) = am_B37_46 := rfl
theorem bs37 : am_blk 37 0 = am_B37_0 ∧ am_blk 37 (Int.toNat 14) = am_B37_14 ∧ am_blk 37 (Int.toNat 21) = am_B37_21 ∧ am_blk 37 (Int.toNat 45) = am_B37_45 ∧ am_blk 37 (Int.toNat 46) = am_B37_46 := ⟨rfl, rfl, rfl, rfl, rfl⟩
theorem bk38_0 : am_blk 38 0 = am_B38_0 := rfl
theorem bs38 : am_blk 38 0 = am_B38_0 := rfl
theorem bk39_0 : am_blk 39 0 = am_B39_0 := rfl
theorem bk39_13 : am_blk 39 (Int.toNat 13) = am_B39_13 := rfl
theorem bs39 : am_blk 39 0 = am_B39_0 ∧ am_blk 39 (Int.toNat 13) = am_B39_13 := ⟨rfl, rfl⟩
theorem bk40_0 : am_blk 40 0 = am_B40_0 := rfl
theorem bk40_14 : am_blk 40 (Int.toNat 14) = am_B40_14 := rfl
theorem bk40_21 : am_blk 40 (Int.toNat 21) = am_B40_21 := rfl
theorem bk40_41 : am_blk 40 (Int.toNat 41) = am_B40_41 := rfl
theorem bk40_49 : am_blk 40 (Int.toNat 49) = am_B40_49 := rfl
theorem bs40 : am_blk 40 0 = am_B40_0 ∧ am_blk 40 (Int.toNat 14) = am_B40_14 ∧ am_blk 40 (Int.toNat 21) = am_B40_21 ∧ am_blk 40 (Int.toNat 41) = am_B40_41 ∧ am_blk 40 (Int.toNat 49) = am_B40_49 := ⟨rfl, rfl, rfl, rfl, rfl⟩
theorem bk41_0 : am_blk 41 0 = am_B41_0 := rfl
theorem bs41 : am_blk 41 0 = am_B41_0 := rfl
theorem bk42_0 : am_blk 42 0 = am_B42_0 := rfl
theorem bs42 : am_blk 42 0 = am_B42_0 := rfl
theorem bk43_0 : am_blk 43 0 = am_B43_0 := rfl
theorem bk43_18 : am_blk 43 (Int.toNat 18) = am_B43_18 := rfl
theorem bk43_25 : am_blk 43 (Int.toNat 25) = am_B43_25 := rfl
theorem bk43_40 : am_blk 43 (Int.toNat 40) = am_B43_40 := rfl
theorem bk43_62 : am_blk 43 (Int.toNat 62) = am_B43_62 := rfl
theorem bk43_77 : am_blk 43 (Int.toNat 77) = am_B43_77 := rfl
theorem bk43_92 : am_blk 43 (Int.toNat 92) = am_B43_92 := rfl
theorem bk43_93 : am_blk 43 (Int.toNat 93) = am_B43_93 := rfl
theorem bs43 : am_blk 43 0 = am_B43_0 ∧ am_blk 43 (Int.toNat 18) = am_B43_18 ∧ am_blk 43 (Int.toNat 25) = am_B43_25 ∧ am_blk 43 (Int.toNat 40) = am_B43_40 ∧ am_blk 43 (Int.toNat 62) = am_B43_62 ∧ am_blk 43 (Int.toNat 77) = am_B43_77 ∧ am_blk 43 (Int.toNat 92) = am_B43_92 ∧ am_blk 43 (Int.toNat 93) = am_B43_93 := ⟨rfl, rfl, rfl, rfl, rfl, rfl, rfl, rfl⟩
theorem bk44_0 : am_blk 44 0 = am_B44_0 := rfl
theorem bs44 : am_blk 44 0 = am_B44_0 := rfl
theorem bk45_0 : am_blk 45 0 = am_B45_0 := rfl
theorem bk45_32 : am_blk 45 (Int.toNat 32) = am_B45_32 := rfl
theorem bk45_39 : am_blk 45 (Int.toNat 39) = am_B45_39 := rfl
theorem bk45_46 : am_blk 45 (Int.toNat 46) = am_B45_46 := rfl
theorem bk45_53 : am_blk 45 (Int.toNat 53) = am_B45_53 := rfl
theorem bk45_60 : am_blk 45 (Int.toNat 60) = am_B45_60 := rfl
theorem bs45 : am_blk 45 0 = am_B45_0 ∧ am_blk 45 (Int.toNat 32) = am_B45_32 ∧ am_blk 45 (Int.toNat 39) = am_B45_39 ∧ am_blk 45 (Int.toNat 46) = am_B45_46 ∧ am_blk 45 (Int.toNat 53) = am_B45_53 ∧ am_blk 45 (Int.toNat 60) = am_B45_60 := ⟨rfl, rfl, rfl, rfl, rfl, rfl⟩
theorem bk46_0 : am_blk 46 0 = am_B46_0 := rfl
theorem bk46_32 : am_blk 46 (Int.toNat 32) = am_B46_32 := rfl
theorem bk46_33 : am_blk 46 (Int.toNat 33) = am_B46_33 := rfl
theorem bs46 : am_blk 46 0 = am_B46_0 ∧ am_blk 46 (Int.toNat 32) = am_B46_32 ∧ am_blk 46 (Int.toNat 33) = am_B46_33 := ⟨rfl, rfl, rfl⟩
theorem bk47_0 : am_blk 47 0 = am_B47_0 := rfl
theorem bk47_10 : am_blk 47 (Int.toNat 10) = am_B47_10 := rfl
theorem bk47_11 : am_blk 47 (Int.toNat 11) = am_B47_11 := rfl
theorem bs47 : am_blk 47 0 = am_B47_0 ∧ am_blk 47 (Int.toNat 10) = am_B47_10 ∧ am_blk 47 (Int.toNat 11) = am_B47_11 := ⟨rfl, rfl, rfl⟩
theorem bk48_0 : am_blk 48 0 = am_B48_0 := rfl
theorem bh48_8 : am_blk 48 8 = am_B48_8 := rfl
theorem bn48_8 : am_blk 48 (Int.toNat 8) = am_blk 48 8 := rfl
theorem bk48_47 : am_blk 48 (Int.toNat 47) = am_B48_47 := rfl
theorem bk48_53 : am_blk 48 (Int.toNat 53) = am_B48_53 := rfl
theorem bs48 : am_blk 48 0 = am_B48_0 ∧ am_blk 48 (Int.toNat 8) = am_blk 48 8 ∧ am_blk 48 (Int.toNat 47) = am_B48_47 ∧ am_blk 48 (Int.toNat 53) = am_B48_53 := ⟨rfl, rfl, rfl, rfl⟩
theorem bk49_0 : am_blk 49 0 = am_B49_0 := rfl
theorem bk49_18 : am_blk 49 (Int.toNat 18) = am_B49_18 := rfl
theorem bk49_25 : am_blk 49 (Int.toNat 25) = am_B49_25 := rfl
theorem bk49_56 : am_blk 49 (Int.toNat 56) = am_B49_56 := rfl
theorem bk49_63 : am_blk 49 (Int.toNat 63) = am_B49_63 := rfl
theorem bk49_70 : am_blk 49 (Int.toNat 70) = am_B49_70 := rfl
theorem bk49_82 : am_blk 49 (Int.toNat 82) = am_B49_82 := rfl
theorem bk49_83 : am_blk 49 (Int.toNat 83) = am_B49_83 := rfl
theorem bk49_84 : am_blk 49 (Int.toNat 84) = am_B49_84 := rfl
theorem bs49 : am_blk 49 0 = am_B49_0 ∧ am_blk 49 (Int.toNat 18) = am_B49_18 ∧ am_blk 49 (Int.toNat 25) = am_B49_25 ∧ am_blk 49 (Int.toNat 56) = am_B49_56 ∧ am_blk 49 (Int.toNat 63) = am_B49_63 ∧ am_blk 49 (Int.toNat 70) = am_B49_70 ∧ am_blk 49 (Int.toNat 82) = am_B49_82 ∧ am_blk 49 (Int.toNat 83) = am_B49_83 ∧ am_blk 49 (Int.toNat 84) = am_B49_84 := ⟨rfl, rfl, rfl, rfl, rfl, rfl, rfl, rfl, rfl⟩
theorem bk50_0 : am_blk 50 0 = am_B50_0 := rfl
theorem bs50 : am_blk 50 0 = am_B50_0 := rfl
theorem bk51_0 : am_blk 51 0 = am_B51_0 := rfl
theorem bh51_4 : am_blk 51 4 = am_B51_4 := rfl
theorem bn51_4 : am_blk 51 (Int.toNat 4) = am_blk 51 4 := rfl
theorem bk51_53 : am_blk 51 (Int.toNat 53) = am_B51_53 := rfl
theorem bk51_57 : am_blk 51 (Int.toNat 57) = am_B51_57 := rfl
theorem bk51_58 : am_blk 51 (Int.toNat 58) = am_B51_58 := rfl
theorem bk51_65 : am_blk 51 (Int.toNat 65) = am_B51_65 := rfl
theorem bs51 : am_blk 51 0 = am_B51_0 ∧ am_blk 51 (Int.toNat 4) = am_blk 51 4 ∧ am_blk 51 (Int.toNat 53) = am_B51_53 ∧ am_blk 51 (Int.toNat 57) = am_B51_57 ∧ am_blk 51 (Int.toNat 58) = am_B51_58 ∧ am_blk 51 (Int.toNat 65) = am_B51_65 := ⟨rfl, rfl, rfl, rfl, rfl, rfl⟩
theorem bk52_0 : am_blk 52 0 = am_B52_0 := rfl
theorem bk52_21 : am_blk 52 (Int.toNat 21) = am_B52_21 := rfl
theorem bk52_28 : am_blk 52 (Int.toNat 28) = am_B52_28 := rfl
theorem bs52 : am_blk 52 0 = am_B52_0 ∧ am_blk 52 (Int.toNat 21) = am_B52_21 ∧ am_blk 52 (Int.toNat 28) = am_B52_28 := ⟨rfl, rfl, rfl⟩
theorem bk53_0 : am_blk 53 0 = am_B53_0 := rfl
theorem bk53_36 : am_blk 53 (Int.toNat 36) = am_B53_36 := rfl
theorem bk53_41 : am_blk 53 (Int.toNat 41) = am_B53_41 := rfl
theorem bk53_46 : am_blk 53 (Int.toNat 46) = am_B53_46 := rfl
theorem bk53_54 : am_blk 53 (Int.toNat 54) = am_B53_54 := rfl
theorem bk53_77 : am_blk 53 (Int.toNat 77) = am_B53_77 := rfl
theorem bk53_78 : am_blk 53 (Int.toNat 78) = am_B53_78 := rfl
theorem bk53_79 : am_blk 53 (Int.toNat 79) = am_B53_79 := rfl
theorem bk53_87 : am_blk 53 (Int.toNat 87) = am_B53_87 := rfl
theorem bs53 : am_blk 53 0 = am_B53_0 ∧ am_blk 53 (Int.toNat 36) = am_B53_36 ∧ am_blk 53 (Int.toNat 41) = am_B53_41 ∧ am_blk 53 (Int.toNat 46) = am_B53_46 ∧ am_blk 53 (Int.toNat 54) = am_B53_54 ∧ am_blk 53 (Int.toNat 77) = am_B53_77 ∧ am_blk 53 (Int.toNat 78) = am_B53_78 ∧ am_blk 53 (Int.toNat 79) = am_B53_79 ∧ am_blk 53 (Int.toNat 87) = am_B53_87 := ⟨rfl, rfl, rfl, rfl, rfl, rfl, rfl, rfl, rfl⟩
theorem bk54_0 : am_blk 54 0 = am_B54_0 := rfl
theorem bk54_32 : am_blk 54 (Int.toNat 32) = am_B54_32 := rfl
theorem bk54_42 : am_blk 54 (Int.toNat 42) = am_B54_42 := rfl
theorem bk54_52 : am_blk 54 (Int.toNat 52) = am_B54_52 := rfl
theorem bk54_62 : am_blk 54 (Int.toNat 62) = am_B54_62 := rfl
theorem bk54_72 : am_blk 54 (Int.toNat 72) = am_B54_72 := rfl
theorem bk54_79 : am_blk 54 (Int.toNat 79) = am_B54_79 := rfl
theorem bs54 : am_blk 54 0 = am_B54_0 ∧ am_blk 54 (Int.toNat 32) = am_B54_32 ∧ am_blk 54 (Int.toNat 42) = am_B54_42 ∧ am_blk 54 (Int.toNat 52) = am_B54_52 ∧ am_blk 54 (Int.toNat 62) = am_B54_62 ∧ am_blk 54 (Int.toNat 72) = am_B54_72 ∧ am_blk 54 (Int.toNat 79) = am_B54_79 := ⟨rfl, rfl, rfl, rfl, rfl, rfl, rfl⟩
theorem bk55_0 : am_blk 55 0 = am_B55_0 := rfl
theorem bk55_31 : am_blk 55 (Int.toNat 31) = am_B55_31 := rfl
theorem bk55_37 : am_blk 55 (Int.toNat 37) = am_B55_37 := rfl
theorem bs55 : am_blk 55 0 = am_B55_0 ∧ am_blk 55 (Int.toNat 31) = am_B55_31 ∧ am_blk 55 (Int.toNat 37) = am_B55_37 := ⟨rfl, rfl, rfl⟩
theorem bk56_0 : am_blk 56 0 = am_B56_0 := rfl
theorem bk56_36 : am_blk 56 (Int.toNat 36) = am_B56_36 := rfl
theorem bk56_41 : am_blk 56 (Int.toNat 41) = am_B56_41 := rfl
theorem bk56_46 : am_blk 56 (Int.toNat 46) = am_B56_46 := rfl
theorem bk56_64 : am_blk 56 (Int.toNat 64) = am_B56_64 := rfl
theorem bk56_68 : am_blk 56 (Int.toNat 68) = am_B56_68 := rfl
theorem bk56_69 : am_blk 56 (Int.toNat 69) = am_B56_69 := rfl
theorem bk56_70 : am_blk 56 (Int.toNat 70) = am_B56_70 := rfl
theorem bk56_78 : am_blk 56 (Int.toNat 78) = am_B56_78 := rfl
theorem bs56 : am_blk 56 0 = am_B56_0 ∧ am_blk 56 (Int.toNat 36) = am_B56_36 ∧ am_blk 56 (Int.toNat 41) = am_B56_41 ∧ am_blk 56 (Int.toNat 46) = am_B56_46 ∧ am_blk 56 (Int.toNat 64) = am_B56_64 ∧ am_blk 56 (Int.toNat 68) = am_B56_68 ∧ am_blk 56 (Int.toNat 69) = am_B56_69 ∧ am_blk 56 (Int.toNat 70) = am_B56_70 ∧ am_blk 56 (Int.toNat 78) = am_B56_78 := ⟨rfl, rfl, rfl, rfl, rfl, rfl, rfl, rfl, rfl⟩
theorem bk57_0 : am_blk 57 0 = am_B57_0 := rfl
theorem bk57_15 : am_blk 57 (Int.toNat 15) = am_B57_15 := rfl
theorem bk57_22 : am_blk 57 (Int.toNat 22) = am_B57_22 := rfl
theorem bk57_41 : am_blk 57 (Int.toNat 41) = am_B57_41 := rfl
theorem bs57 : am_blk 57 0 = am_B57_0 ∧ am_blk 57 (Int.toNat 15) = am_B57_15 ∧ am_blk 57 (Int.toNat 22) = am_B57_22 ∧ am_blk 57 (Int.toNat 41) = am_B57_41 := ⟨rfl, rfl, rfl, rfl⟩
theorem bk58_0 : am_blk 58 0 = am_B58_0 := rfl
theorem bk58_24 : am_blk 58 (Int.toNat 24) = am_B58_24 := rfl
theorem bk58_25 : am_blk 58 (Int.toNat 25) = am_B58_25 := rfl
theorem bs58 : am_blk 58 0 = am_B58_0 ∧ am_blk 58 (Int.toNat 24) = am_B58_24 ∧ am_blk 58 (Int.toNat 25) = am_B58_25 := ⟨rfl, rfl, rfl⟩
theorem bk59_0 : am_blk 59 0 = am_B59_0 := rfl
theorem bk59_20 : am_blk 59 (Int.toNat 20) = am_B59_20 := rfl
theorem bk59_21 : am_blk 59 (Int.toNat 21) = am_B59_21 := rfl
theorem bs59 : am_blk 59 0 = am_B59_0 ∧ am_blk 59 (Int.toNat 20) = am_B59_20 ∧ am_blk 59 (Int.toNat 21) = am_B59_21 := ⟨rfl, rfl, rfl⟩
theorem bk60_0 : am_blk 60 0 = am_B60_0 := rfl
theorem bk60_15 : am_blk 60 (Int.toNat 15) = am_B60_15 := rfl
theorem bk60_22 : am_blk 60 (Int.toNat 22) = am_B60_22 := rfl
theorem bk60_40 : am_blk 60 (Int.toNat 40) = am_B60_40 := rfl
theorem bk60_46 : am_blk 60 (Int.toNat 46) = am_B60_46 := rfl
theorem bs60 : am_blk 60 0 = am_B60_0 ∧ am_blk 60 (Int.toNat 15) = am_B60_15 ∧ am_blk 60 (Int.toNat 22) = am_B60_22 ∧ am_blk 60 (Int.toNat 40) = am_B60_40 ∧ am_blk 60 (Int.toNat 46) = am_B60_46 := ⟨rfl, rfl, rfl, rfl, rfl⟩
theorem bk61_0 : am_blk 61 0 = am_B61_0 := rfl
theorem bk61_15 : am_blk 61 (Int.toNat 15) = am_B61_15 := rfl
theorem bk61_22 : am_blk 61 (Int.toNat 22) = am_B61_22 := rfl
theorem bk61_41 : am_blk 61 (Int.toNat 41) = am_B61_41 := rfl
theorem bs61 : am_blk 61 0 = am_B61_0 ∧ am_blk 61 (Int.toNat 15) = am_B61_15 ∧ am_blk 61 (Int.toNat 22) = am_B61_22 ∧ am_blk 61 (Int.toNat 41) = am_B61_41 := ⟨rfl, rfl, rfl, rfl⟩
theorem bk62_0 : am_blk 62 0 = am_B62_0 := rfl
theorem bk62_15 : am_blk 62 (Int.toNat 15) = am_B62_15 := rfl
theorem bk62_22 : am_blk 62 (Int.toNat 22) = am_B62_22 := rfl
theorem bk62_40 : am_blk 62 (Int.toNat 40) = am_B62_40 := rfl
theorem bk62_46 : am_blk 62 (Int.toNat 46) = am_B62_46 := rfl
theorem bs62 : am_blk 62 0 = am_B62_0 ∧ am_blk 62 (Int.toNat 15) = am_B62_15 ∧ am_blk 62 (Int.toNat 22) = am_B62_22 ∧ am_blk 62 (Int.toNat 40) = am_B62_40 ∧ am_blk 62 (Int.toNat 46) = am_B62_46 := ⟨rfl, rfl, rfl, rfl, rfl⟩
theorem bk63_0 : am_blk 63 0 = am_B63_0 := rfl
theorem bk63_17 : am_blk 63 (Int.toNat 17) = am_B63_17 := rfl
theorem bk63_38 : am_blk 63 (Int.toNat 38) = am_B63_38 := rfl
theorem bs63 : am_blk 63 0 = am_B63_0 ∧ am_blk 63 (Int.toNat 17) = am_B63_17 ∧ am_blk 63 (Int.toNat 38) = am_B63_38 := ⟨rfl, rfl, rfl⟩
theorem bk64_0 : am_blk 64 0 = am_B64_0 := rfl
theorem bh64_2 : am_blk 64 2 = am_B64_2 := rfl
theorem bn64_2 : am_blk 64 (Int.toNat 2) = am_blk 64 2 := rfl
theorem bh64_13 : am_blk 64 13 = am_B64_13 := rfl
theorem bn64_13 : am_blk 64 (Int.toNat 13) = am_blk 64 13 := rfl
theorem bk64_50 : am_blk 64 (Int.toNat 50) = am_B64_50 := rfl
theorem bh64_52 : am_blk 64 52 = am_B64_52 := rfl
theorem bn64_52 : am_blk 64 (Int.toNat 52) = am_blk 64 52 := rfl
theorem bk64_93 : am_blk 64 (Int.toNat 93) = am_B64_93 := rfl
theorem bk64_99 : am_blk 64 (Int.toNat 99) = am_B64_99 := rfl
theorem bk64_120 : am_blk 64 (Int.toNat 120) = am_B64_120 := rfl
theorem bs64 : am_blk 64 0 = am_B64_0 ∧ am_blk 64 (Int.toNat 2) = am_blk 64 2 ∧ am_blk 64 (Int.toNat 13) = am_blk 64 13 ∧ am_blk 64 (Int.toNat 50) = am_B64_50 ∧ am_blk 64 (Int.toNat 52) = am_blk 64 52 ∧ am_blk 64 (Int.toNat 93) = am_B64_93 ∧ am_blk 64 (Int.toNat 99) = am_B64_99 ∧ am_blk 64 (Int.toNat 120) = am_B64_120 := ⟨rfl, rfl, rfl, rfl, rfl, rfl, rfl, rfl⟩
theorem bk65_0 : am_blk 65 0 = am_B65_0 := rfl
theorem bh65_4 : am_blk 65 4 = am_B65_4 := rfl
theorem bn65_4 : am_blk 65 (Int.toNat 4) = am_blk 65 4 := rfl
theorem bk65_27 : am_blk 65 (Int.toNat 27) = am_B65_27 := rfl
theorem bs65 : am_blk 65 0 = am_B65_0 ∧ am_blk 65 (Int.toNat 4) = am_blk 65 4 ∧ am_blk 65 (Int.toNat 27) = am_B65_27 := ⟨rfl, rfl, rfl⟩
theorem bk66_0 : am_blk 66 0 = am_B66_0 := rfl
theorem bk66_17 : am_blk 66 (Int.toNat 17) = am_B66_17 := rfl
theorem bk66_37 : am_blk 66 (Int.toNat 37) = am_B66_37 := rfl
theorem bs66 : am_blk 66 0 = am_B66_0 ∧ am_blk 66 (Int.toNat 17) = am_B66_17 ∧ am_blk 66 (Int.toNat 37) = am_B66_37 := ⟨rfl, rfl, rfl⟩
theorem bk67_0 : am_blk 67 0 = am_B67_0 := rfl
theorem bh67_2 : am_blk 67 2 = am_B67_2 := rfl
theorem bn67_2 : am_blk 67 (Int.toNat 2) = am_blk 67 2 := rfl
theorem bk67_17 : am_blk 67 (Int.toNat 17) = am_B67_17 := rfl
theorem bs67 : am_blk 67 0 = am_B67_0 ∧ am_blk 67 (Int.toNat 2) = am_blk 67 2 ∧ am_blk 67 (Int.toNat 17) = am_B67_17 := ⟨rfl, rfl, rfl⟩
theorem bk68_0 : am_blk 68 0 = am_B68_0 := rfl
theorem bh68_6 : am_blk 68 6 = am_B68_6 := rfl
theorem bn68_6 : am_blk 68 (Int.toNat 6) = am_blk 68 6 := rfl
theorem bk68_73 : am_blk 68 (Int.toNat 73) = am_B68_73 := rfl
theorem bk68_77 : am_blk 68 (Int.toNat 77) = am_B68_77 := rfl
theorem bk68_78 : am_blk 68 (Int.toNat 78) = am_B68_78 := rfl
theorem bk68_101 : am_blk 68 (Int.toNat 101) = am_B68_101 := rfl
theorem bk68_107 : am_blk 68 (Int.toNat 107) = am_B68_107 := rfl
theorem bk68_114 : am_blk 68 (Int.toNat 114) = am_B68_114 := rfl
theorem bs68 : am_blk 68 0 = am_B68_0 ∧ am_blk 68 (Int.toNat 6) = am_blk 68 6 ∧ am_blk 68 (Int.toNat 73) = am_B68_73 ∧ am_blk 68 (Int.toNat 77) = am_B68_77 ∧ am_blk 68 (Int.toNat 78) = am_B68_78 ∧ am_blk 68 (Int.toNat 101) = am_B68_101 ∧ am_blk 68 (Int.toNat 107) = am_B68_107 ∧ am_blk 68 (Int.toNat 114) = am_B68_114 := ⟨rfl, rfl, rfl, rfl, rfl, rfl, rfl, rfl⟩
theorem bk69_0 : am_blk 69 0 = am_B69_0 := rfl
theorem bh69_4 : am_blk 69 4 = am_B69_4 := rfl
theorem bn69_4 : am_blk 69 (Int.toNat 4) = am_blk 69 4 := rfl
theorem bk69_29 : am_blk 69 (Int.toNat 29) = am_B69_29 := rfl
theorem bs69 : am_blk 69 0 = am_B69_0 ∧ am_blk 69 (Int.toNat 4) = am_blk 69 4 ∧ am_blk 69 (Int.toNat 29) = am_B69_29 := ⟨rfl, rfl, rfl⟩
theorem bk70_0 : am_blk 70 0 = am_B70_0 := rfl
theorem bk70_16 : am_blk 70 (Int.toNat 16) = am_B70_16 := rfl
theorem bk70_60 : am_blk 70 (Int.toNat 60) = am_B70_60 := rfl
theorem bk70_68 : am_blk 70 (Int.toNat 68) = am_B70_68 := rfl
theorem bk70_76 : am_blk 70 (Int.toNat 76) = am_B70_76 := rfl
theorem bk70_84 : am_blk 70 (Int.toNat 84) = am_B70_84 := rfl
theorem bk70_92 : am_blk 70 (Int.toNat 92) = am_B70_92 := rfl
theorem bk70_100 : am_blk 70 (Int.toNat 100) = am_B70_100 := rfl
theorem bs70 : am_blk 70 0 = am_B70_0 ∧ am_blk 70 (Int.toNat 16) = am_B70_16 ∧ am_blk 70 (Int.toNat 60) = am_B70_60 ∧ am_blk 70 (Int.toNat 68) = am_B70_68 ∧ am_blk 70 (Int.toNat 76) = am_B70_76 ∧ am_blk 70 (Int.toNat 84) = am_B70_84 ∧ am_blk 70 (Int.toNat 92) = am_B70_92 ∧ am_blk 70 (Int.toNat 100) = am_B70_100 := ⟨rfl, rfl, rfl, rfl, rfl, rfl, rfl, rfl⟩
theorem bk71_0 : am_blk 71 0 = am_B71_0 := rfl
theorem bh71_4 : am_blk 71 4 = am_B71_4 := rfl
theorem bn71_4 : am_blk 71 (Int.toNat 4) = am_blk 71 4 := rfl
theorem bk71_27 : am_blk 71 (Int.toNat 27) = am_B71_27 := rfl
theorem bk71_28 : am_blk 71 (Int.toNat 28) = am_B71_28 := rfl
theorem bk71_36 : am_blk 71 (Int.toNat 36) = am_B71_36 := rfl
theorem bs71 : am_blk 71 0 = am_B71_0 ∧ am_blk 71 (Int.toNat 4) = am_blk 71 4 ∧ am_blk 71 (Int.toNat 27) = am_B71_27 ∧ am_blk 71 (Int.toNat 28) = am_B71_28 ∧ am_blk 71 (Int.toNat 36) = am_B71_36 := ⟨rfl, rfl, rfl, rfl, rfl⟩
theorem bk72_0 : am_blk 72 0 = am_B72_0 := rfl
theorem bh72_4 : am_blk 72 4 = am_B72_4 := rfl
theorem bn72_4 : am_blk 72 (Int.toNat 4) = am_blk 72 4 := rfl
theorem bk72_26 : am_blk 72 (Int.toNat 26) = am_B72_26 := rfl
theorem bk72_27 : am_blk 72 (Int.toNat 27) = am_B72_27 := rfl
theorem bk72_35 : am_blk 72 (Int.toNat 35) = am_B72_35 := rfl
theorem bs72 : am_blk 72 0 = am_B72_0 ∧ am_blk 72 (Int.toNat 4) = am_blk 72 4 ∧ am_blk 72 (Int.toNat 26) = am_B72_26 ∧ am_blk 72 (Int.toNat 27) = am_B72_27 ∧ am_blk 72 (Int.toNat 35) = am_B72_35 := ⟨rfl, rfl, rfl, rfl, rfl⟩
theorem bk73_0 : am_blk 73 0 = am_B73_0 := rfl
theorem bh73_4 : am_blk 73 4 = am_B73_4 := rfl
theorem bn73_4 : am_blk 73 (Int.toNat 4) = am_blk 73 4 := rfl
theorem bk73_34 : am_blk 73 (Int.toNat 34) = am_B73_34 := rfl
theorem bk73_35 : am_blk 73 (Int.toNat 35) = am_B73_35 := rfl
theorem bk73_43 : am_blk 73 (Int.toNat 43) = am_B73_43 := rfl
theorem bs73 : am_blk 73 0 = am_B73_0 ∧ am_blk 73 (Int.toNat 4) = am_blk 73 4 ∧ am_blk 73 (Int.toNat 34) = am_B73_34 ∧ am_blk 73 (Int.toNat 35) = am_B73_35 ∧ am_blk 73 (Int.toNat 43) = am_B73_43 := ⟨rfl, rfl, rfl, rfl, rfl⟩
theorem bk74_0 : am_blk 74 0 = am_B74_0 := rfl
theorem bh74_4 : am_blk 74 4 = am_B74_4 := rfl
theorem bn74_4 : am_blk 74 (Int.toNat 4) = am_blk 74 4 := rfl
theorem bk74_32 : am_blk 74 (Int.toNat 32) = am_B74_32 := rfl
theorem bk74_34 : am_blk 74 (Int.toNat 34) = am_B74_34 := rfl
theorem bk74_40 : am_blk 74 (Int.toNat 40) = am_B74_40 := rfl
theorem bs74 : am_blk 74 0 = am_B74_0 ∧ am_blk 74 (Int.toNat 4) = am_blk 74 4 ∧ am_blk 74 (Int.toNat 32) = am_B74_32 ∧ am_blk 74 (Int.toNat 34) = am_B74_34 ∧ am_blk 74 (Int.toNat 40) = am_B74_40 := ⟨rfl, rfl, rfl, rfl, rfl⟩
theorem bk75_0 : am_blk 75 0 = am_B75_0 := rfl
theorem bk75_40 : am_blk 75 (Int.toNat 40) = am_B75_40 := rfl
theorem bk75_47 : am_blk 75 (Int.toNat 47) = am_B75_47 := rfl
theorem bk75_52 : am_blk 75 (Int.toNat 52) = am_B75_52 := rfl
theorem bk75_57 : am_blk 75 (Int.toNat 57) = am_B75_57 := rfl
theorem bk75_62 : am_blk 75 (Int.toNat 62) = am_B75_62 := rfl
theorem bk75_67 : am_blk 75 (Int.toNat 67) = am_B75_67 := rfl
theorem bk75_72 : am_blk 75 (Int.toNat 72) = am_B75_72 := rfl
theorem bs75 : am_blk 75 0 = am_B75_0 ∧ am_blk 75 (Int.toNat 40) = am_B75_40 ∧ am_blk 75 (Int.toNat 47) = am_B75_47 ∧ am_blk 75 (Int.toNat 52) = am_B75_52 ∧ am_blk 75 (Int.toNat 57) = am_B75_57 ∧ am_blk 75 (Int.toNat 62) = am_B75_62 ∧ am_blk 75 (Int.toNat 67) = am_B75_67 ∧ am_blk 75 (Int.toNat 72) = am_B75_72 := ⟨rfl, rfl, rfl, rfl, rfl, rfl, rfl, rfl⟩
theorem bk76_0 : am_blk 76 0 = am_B76_0 := rfl
theorem bh76_8 : am_blk 76 8 = am_B76_8 := rfl
theorem bn76_8 : am_blk 76 (Int.toNat 8) = am_blk 76 8 := rfl
theorem bk76_33 : am_blk 76 (Int.toNat 33) = am_B76_33 := rfl
theorem bk76_34 : am_blk 76 (Int.toNat 34) = am_B76_34 := rfl
theorem bk76_42 : am_blk 76 (Int.toNat 42) = am_B76_42 := rfl
theorem bs76 : am_blk 76 0 = am_B76_0 ∧ am_blk 76 (Int.toNat 8) = am_blk 76 8 ∧ am_blk 76 (Int.toNat 33) = am_B76_33 ∧ am_blk 76 (Int.toNat 34) = am_B76_34 ∧ am_blk 76 (Int.toNat 42) = am_B76_42 := ⟨rfl, rfl, rfl, rfl, rfl⟩
theorem bk77_0 : am_blk 77 0 = am_B77_0 := rfl
theorem bh77_8 : am_blk 77 8 = am_B77_8 := rfl
theorem bn77_8 : am_blk 77 (Int.toNat 8) = am_blk 77 8 := rfl
theorem bk77_35 : am_blk 77 (Int.toNat 35) = am_B77_35 := rfl
theorem bs77 : am_blk 77 0 = am_B77_0 ∧ am_blk 77 (Int.toNat 8) = am_blk 77 8 ∧ am_blk 77 (Int.toNat 35) = am_B77_35 := ⟨rfl, rfl, rfl⟩
theorem bk78_0 : am_blk 78 0 = am_B78_0 := rfl
theorem bh78_8 : am_blk 78 8 = am_B78_8 := rfl
theorem bn78_8 : am_blk 78 (Int.toNat 8) = am_blk 78 8 := rfl
theorem bk78_40 : am_blk 78 (Int.toNat 40) = am_B78_40 := rfl
theorem bk78_41 : am_blk 78 (Int.toNat 41) = am_B78_41 := rfl
theorem bk78_49 : am_blk 78 (Int.toNat 49) = am_B78_49 := rfl
theorem bs78 : am_blk 78 0 = am_B78_0 ∧ am_blk 78 (Int.toNat 8) = am_blk 78 8 ∧ am_blk 78 (Int.toNat 40) = am_B78_40 ∧ am_blk 78 (Int.toNat 41) = am_B78_41 ∧ am_blk 78 (Int.toNat 49) = am_B78_49 := ⟨rfl, rfl, rfl, rfl, rfl⟩
theorem bk79_0 : am_blk 79 0 = am_B79_0 := rfl
theorem bh79_4 : am_blk 79 4 = am_B79_4 := rfl
theorem bn79_4 : am_blk 79 (Int.toNat 4) = am_blk 79 4 := rfl
theorem bk79_33 : am_blk 79 (Int.toNat 33) = am_B79_33 := rfl
theorem bk79_37 : am_blk 79 (Int.toNat 37) = am_B79_37 := rfl
theorem bk79_38 : am_blk 79 (Int.toNat 38) = am_B79_38 := rfl
theorem bk79_45 : am_blk 79 (Int.toNat 45) = am_B79_45 := rfl
theorem bs79 : am_blk 79 0 = am_B79_0 ∧ am_blk 79 (Int.toNat 4) = am_blk 79 4 ∧ am_blk 79 (Int.toNat 33) = am_B79_33 ∧ am_blk 79 (Int.toNat 37) = am_B79_37 ∧ am_blk 79 (Int.toNat 38) = am_B79_38 ∧ am_blk 79 (Int.toNat 45) = am_B79_45 := ⟨rfl, rfl, rfl, rfl, rfl, rfl⟩
theorem bk80_0 : am_blk 80 0 = am_B80_0 := rfl
theorem bk80_18 : am_blk 80 (Int.toNat 18) = am_B80_18 := rfl
theorem bk80_25 : am_blk 80 (Int.toNat 25) = am_B80_25 := rfl
theorem bs80 : am_blk 80 0 = am_B80_0 ∧ am_blk 80 (Int.toNat 18) = am_B80_18 ∧ am_blk 80 (Int.toNat 25) = am_B80_25 := ⟨rfl, rfl, rfl⟩
theorem bk81_0 : am_blk 81 0 = am_B81_0 := rfl
theorem bs81 : am_blk 81 0 = am_B81_0 := rfl
theorem bk82_0 : am_blk 82 0 = am_B82_0 := rfl
theorem bk82_28 : am_blk 82 (Int.toNat 28) = am_B82_28 := rfl
theorem bk82_34 : am_blk 82 (Int.toNat 34) = am_B82_34 := rfl
theorem bs82 : am_blk 82 0 = am_B82_0 ∧ am_blk 82 (Int.toNat 28) = am_B82_28 ∧ am_blk 82 (Int.toNat 34) = am_B82_34 := ⟨rfl, rfl, rfl⟩
theorem bk83_0 : am_blk 83 0 = am_B83_0 := rfl
theorem bs83 : am_blk 83 0 = am_B83_0 := rfl
theorem bk84_0 : am_blk 84 0 = am_B84_0 := rfl
theorem bs84 : am_blk 84 0 = am_B84_0 := rfl
theorem bk85_0 : am_blk 85 0 = am_B85_0 := rfl
theorem bh85_2 : am_blk 85 2 = am_B85_2 := rfl
theorem bn85_2 : am_blk 85 (Int.toNat 2) = am_blk 85 2 := rfl
theorem bk85_20 : am_blk 85 (Int.toNat 20) = am_B85_20 := rfl
theorem bs85 : am_blk 85 0 = am_B85_0 ∧ am_blk 85 (Int.toNat 2) = am_blk 85 2 ∧ am_blk 85 (Int.toNat 20) = am_B85_20 := ⟨rfl, rfl, rfl⟩
theorem bk86_0 : am_blk 86 0 = am_B86_0 := rfl
theorem bs86 : am_blk 86 0 = am_B86_0 := rfl
theorem bk87_0 : am_blk 87 0 = am_B87_0 := rfl
theorem bk87_18 : am_blk 87 (Int.toNat 18) = am_B87_18 := rfl
theorem bk87_25 : am_blk 87 (Int.toNat 25) = am_B87_25 := rfl
theorem bs87 : am_blk 87 0 = am_B87_0 ∧ am_blk 87 (Int.toNat 18) = am_B87_18 ∧ am_blk 87 (Int.toNat 25) = am_B87_25 := ⟨rfl, rfl, rfl⟩
theorem bk88_0 : am_blk 88 0 = am_B88_0 := rfl
theorem bk88_28 : am_blk 88 (Int.toNat 28) = am_B88_28 := rfl
theorem bk88_34 : am_blk 88 (Int.toNat 34) = am_B88_34 := rfl
theorem bs88 : am_blk 88 0 = am_B88_0 ∧ am_blk 88 (Int.toNat 28) = am_B88_28 ∧ am_blk 88 (Int.toNat 34) = am_B88_34 := ⟨rfl, rfl, rfl⟩
theorem bk89_0 : am_blk 89 0 = am_B89_0 := rfl
theorem bh89_13 : am_blk 89 13 = am_B89_13 := rfl
theorem bn89_13 : am_blk 89 (Int.toNat 13) = am_blk 89 13 := rfl
theorem bk89_38 : am_blk 89 (Int.toNat 38) = am_B89_38 := rfl
theorem bk89_52 : am_blk 89 (Int.toNat 52) = am_B89_52 := rfl
theorem bs89 : am_blk 89 0 = am_B89_0 ∧ am_blk 89 (Int.toNat 13) = am_blk 89 13 ∧ am_blk 89 (Int.toNat 38) = am_B89_38 ∧ am_blk 89 (Int.toNat 52) = am_B89_52 := ⟨rfl, rfl, rfl, rfl⟩
theorem bk90_0 : am_blk 90 0 = am_B90_0 := rfl
theorem bh90_13 : am_blk 90 13 = am_B90_13 := rfl
theorem bn90_13 : am_blk 90 (Int.toNat 13) = am_blk 90 13 := rfl
theorem bk90_36 : am_blk 90 (Int.toNat 36) = am_B90_36 := rfl
theorem bk90_49 : am_blk 90 (Int.toNat 49) = am_B90_49 := rfl
theorem bk90_50 : am_blk 90 (Int.toNat 50) = am_B90_50 := rfl
theorem bs90 : am_blk 90 0 = am_B90_0 ∧ am_blk 90 (Int.toNat 13) = am_blk 90 13 ∧ am_blk 90 (Int.toNat 36) = am_B90_36 ∧ am_blk 90 (Int.toNat 49) = am_B90_49 ∧ am_blk 90 (Int.toNat 50) = am_B90_50 := ⟨rfl, rfl, rfl, rfl, rfl⟩
theorem bk91_0 : am_blk 91 0 = am_B91_0 := rfl
theorem bk91_13 : am_blk 91 (Int.toNat 13) = am_B91_13 := rfl
theorem bk91_14 : am_blk 91 (Int.toNat 14) = am_B91_14 := rfl
theorem bs91 : am_blk 91 0 = am_B91_0 ∧ am_blk 91 (Int.toNat 13) = am_B91_13 ∧ am_blk 91 (Int.toNat 14) = am_B91_14 := ⟨rfl, rfl, rfl⟩
theorem bk92_0 : am_blk 92 0 = am_B92_0 := rfl
theorem bh92_13 : am_blk 92 13 = am_B92_13 := rfl
theorem bn92_13 : am_blk 92 (Int.toNat 13) = am_blk 92 13 := rfl
theorem bk92_43 : am_blk 92 (Int.toNat 43) = am_B92_43 := rfl
theorem bk92_49 : am_blk 92 (Int.toNat 49) = am_B92_49 := rfl
theorem bs92 : am_blk 92 0 = am_B92_0 ∧ am_blk 92 (Int.toNat 13) = am_blk 92 13 ∧ am_blk 92 (Int.toNat 43) = am_B92_43 ∧ am_blk 92 (Int.toNat 49) = am_B92_49 := ⟨rfl, rfl, rfl, rfl⟩
theorem bk93_0 : am_blk 93 0 = am_B93_0 := rfl
theorem bh93_2 : am_blk 93 2 = am_B93_2 := rfl
theorem bn93_2 : am_blk 93 (Int.toNat 2) = am_blk 93 2 := rfl
theorem bk93_27 : am_blk 93 (Int.toNat 27) = am_B93_27 := rfl
theorem bk93_33 : am_blk 93 (Int.toNat 33) = am_B93_33 := rfl
theorem bs93 : am_blk 93 0 = am_B93_0 ∧ am_blk 93 (Int.toNat 2) = am_blk 93 2 ∧ am_blk 93 (Int.toNat 27) = am_B93_27 ∧ am_blk 93 (Int.toNat 33) = am_B93_33 := ⟨rfl, rfl, rfl, rfl⟩
theorem bk94_0 : am_blk 94 0 = am_B94_0 := rfl
theorem bh94_17 : am_blk 94 17 = am_B94_17 := rfl
theorem bn94_17 : am_blk 94 (Int.toNat 17) = am_blk 94 17 := rfl
theorem bk94_40 : am_blk 94 (Int.toNat 40) = am_B94_40 := rfl
theorem bk94_53 : am_blk 94 (Int.toNat 53) = am_B94_53 := rfl
theorem bk94_54 : am_blk 94 (Int.toNat 54) = am_B94_54 := rfl
theorem bs94 : am_blk 94 0 = am_B94_0 ∧ am_blk 94 (Int.toNat 17) = am_blk 94 17 ∧ am_blk 94 (Int.toNat 40) = am_B94_40 ∧ am_blk 94 (Int.toNat 53) = am_B94_53 ∧ am_blk 94 (Int.toNat 54) = am_B94_54 := ⟨rfl, rfl, rfl, rfl, rfl⟩
theorem bk95_0 : am_blk 95 0 = am_B95_0 := rfl
theorem bh95_4 : am_blk 95 4 = am_B95_4 := rfl
theorem bn95_4 : am_blk 95 (Int.toNat 4) = am_blk 95 4 := rfl
theorem bk95_45 : am_blk 95 (Int.toNat 45) = am_B95_45 := rfl
theorem bk95_46 : am_blk 95 (Int.toNat 46) = am_B95_46 := rfl
theorem bk95_53 : am_blk 95 (Int.toNat 53) = am_B95_53 := rfl
theorem bs95 : am_blk 95 0 = am_B95_0 ∧ am_blk 95 (Int.toNat 4) = am_blk 95 4 ∧ am_blk 95 (Int.toNat 45) = am_B95_45 ∧ am_blk 95 (Int.toNat 46) = am_B95_46 ∧ am_blk 95 (Int.toNat 53) = am_B95_53 := ⟨rfl, rfl, rfl, rfl, rfl⟩
theorem bk96_0 : am_blk 96 0 = am_B96_0 := rfl
theorem bk96_21 : am_blk 96 (Int.toNat 21) = am_B96_21 := rfl
theorem bk96_28 : am_blk 96 (Int.toNat 28) = am_B96_28 := rfl
theorem bh96_41 : am_blk 96 41 = am_B96_41 := rfl
theorem bn96_41 : am_blk 96 (Int.toNat 41) = am_blk 96 41 := rfl
theorem bk96_77 : am_blk 96 (Int.toNat 77) = am_B96_77 := rfl
theorem bk96_91 : am_blk 96 (Int.toNat 91) = am_B96_91 := rfl
theorem bs96 : am_blk 96 0 = am_B96_0 ∧ am_blk 96 (Int.toNat 21) = am_B96_21 ∧ am_blk 96 (Int.toNat 28) = am_B96_28 ∧ am_blk 96 (Int.toNat 41) = am_blk 96 41 ∧ am_blk 96 (Int.toNat 77) = am_B96_77 ∧ am_blk 96 (Int.toNat 91) = am_B96_91 := ⟨rfl, rfl, rfl, rfl, rfl, rfl⟩
theorem bk97_0 : am_blk 97 0 = am_B97_0 := rfl
theorem bk97_21 : am_blk 97 (Int.toNat 21) = am_B97_21 := rfl
theorem bk97_28 : am_blk 97 (Int.toNat 28) = am_B97_28 := rfl
theorem bh97_41 : am_blk 97 41 = am_B97_41 := rfl
theorem bn97_41 : am_blk 97 (Int.toNat 41) = am_blk 97 41 := rfl
theorem bk97_66 : am_blk 97 (Int.toNat 66) = am_B97_66 := rfl
theorem bk97_81 : am_blk 97 (Int.toNat 81) = am_B97_81 := rfl
theorem bk97_82 : am_blk 97 (Int.toNat 82) = am_B97_82 := rfl
theorem bs97 : am_blk 97 0 = am_B97_0 ∧ am_blk 97 (Int.toNat 21) = am_B97_21 ∧ am_blk 97 (Int.toNat 28) = am_B97_28 ∧ am_blk 97 (Int.toNat 41) = am_blk 97 41 ∧ am_blk 97 (Int.toNat 66) = am_B97_66 ∧ am_blk 97 (Int.toNat 81) = am_B97_81 ∧ am_blk 97 (Int.toNat 82) = am_B97_82 := ⟨rfl, rfl, rfl, rfl, rfl, rfl, rfl⟩
theorem bk98_0 : am_blk 98 0 = am_B98_0 := rfl
theorem bk98_23 : am_blk 98 (Int.toNat 23) = am_B98_23 := rfl
theorem bk98_24 : am_blk 98 (Int.toNat 24) = am_B98_24 := rfl
theorem bs98 : am_blk 98 0 = am_B98_0 ∧ am_blk 98 (Int.toNat 23) = am_B98_23 ∧ am_blk 98 (Int.toNat 24) = am_B98_24 := ⟨rfl, rfl, rfl⟩
theorem bk99_0 : am_blk 99 0 = am_B99_0 := rfl
theorem bk99_26 : am_blk 99 (Int.toNat 26) = am_B99_26 := rfl
theorem bk99_33 : am_blk 99 (Int.toNat 33) = am_B99_33 := rfl
theorem bh99_54 : am_blk 99 54 = am_B99_54 := rfl
theorem bn99_54 : am_blk 99 (Int.toNat 54) = am_blk 99 54 := rfl
theorem bk99_106 : am_blk 99 (Int.toNat 106) = am_B99_106 := rfl
theorem bk99_115 : am_blk 99 (Int.toNat 115) = am_B99_115 := rfl
theorem bk99_117 : am_blk 99 (Int.toNat 117) = am_B99_117 := rfl
theorem bs99 : am_blk 99 0 = am_B99_0 ∧ am_blk 99 (Int.toNat 26) = am_B99_26 ∧ am_blk 99 (Int.toNat 33) = am_B99_33 ∧ am_blk 99 (Int.toNat 54) = am_blk 99 54 ∧ am_blk 99 (Int.toNat 106) = am_B99_106 ∧ am_blk 99 (Int.toNat 115) = am_B99_115 ∧ am_blk 99 (Int.toNat 117) = am_B99_117 := ⟨rfl, rfl, rfl, rfl, rfl, rfl, rfl⟩
theorem bk100_0 : am_blk 100 0 = am_B100_0 := rfl
theorem bk100_26 : am_blk 100 (Int.toNat 26) = am_B100_26 := rfl
theorem bk100_33 : am_blk 100 (Int.toNat 33) = am_B100_33 := rfl
theorem bh100_54 : am_blk 100 54 = am_B100_54 := rfl
theorem bn100_54 : am_blk 100 (Int.toNat 54) = am_blk 100 54 := rfl
theorem bk100_102 : am_blk 100 (Int.toNat 102) = am_B100_102 := rfl
theorem bk100_112 : am_blk 100 (Int.toNat 112) = am_B100_112 := rfl
theorem bk100_114 : am_blk 100 (Int.toNat 114) = am_B100_114 := rfl
theorem bs100 : am_blk 100 0 = am_B100_0 ∧ am_blk 100 (Int.toNat 26) = am_B100_26 ∧ am_blk 100 (Int.toNat 33) = am_B100_33 ∧ am_blk 100 (Int.toNat 54) = am_blk 100 54 ∧ am_blk 100 (Int.toNat 102) = am_B100_102 ∧ am_blk 100 (Int.toNat 112) = am_B100_112 ∧ am_blk 100 (Int.toNat 114) = am_B100_114 := ⟨rfl, rfl, rfl, rfl, rfl, rfl, rfl⟩
theorem bk101_0 : am_blk 101 0 = am_B101_0 := rfl
theorem bs101 : am_blk 101 0 = am_B101_0 := rfl
theorem bk102_0 : am_blk 102 0 = am_B102_0 := rfl
theorem bk102_18 : am_blk 102 (Int.toNat 18) = am_B102_18 := rfl
theorem bk102_25 : am_blk 102 (Int.toNat 25) = am_B102_25 := rfl
theorem bh102_34 : am_blk 102 34 = am_B102_34 := rfl
theorem bn102_34 : am_blk 102 (Int.toNat 34) = am_blk 102 34 := rfl
theorem bk102_58 : am_blk 102 (Int.toNat 58) = am_B102_58 := rfl
theorem bk102_117 : am_blk 102 (Int.toNat 117) = am_B102_117 := rfl
theorem bk102_123 : am_blk 102 (Int.toNat 123) = am_B102_123 := rfl
theorem bs102 : am_blk 102 0 = am_B102_0 ∧ am_blk 102 (Int.toNat 18) = am_B102_18 ∧ am_blk 102 (Int.toNat 25) = am_B102_25 ∧ am_blk 102 (Int.toNat 34) = am_blk 102 34 ∧ am_blk 102 (Int.toNat 58) = am_B102_58 ∧ am_blk 102 (Int.toNat 117) = am_B102_117 ∧ am_blk 102 (Int.toNat 123) = am_B102_123 := ⟨rfl, rfl, rfl, rfl, rfl, rfl, rfl⟩
theorem bk103_0 : am_blk 103 0 = am_B103_0 := rfl
theorem bk103_22 : am_blk 103 (Int.toNat 22) = am_B103_22 := rfl
theorem bk103_28 : am_blk 103 (Int.toNat 28) = am_B103_28 := rfl
theorem bs103 : am_blk 103 0 = am_B103_0 ∧ am_blk 103 (Int.toNat 22) = am_B103_22 ∧ am_blk 103 (Int.toNat 28) = am_B103_28 := ⟨rfl, rfl, rfl⟩
theorem bk104_0 : am_blk 104 0 = am_B104_0 := rfl
theorem bk104_22 : am_blk 104 (Int.toNat 22) = am_B104_22 := rfl
theorem bk104_23 : am_blk 104 (Int.toNat 23) = am_B104_23 := rfl
theorem bs104 : am_blk 104 0 = am_B104_0 ∧ am_blk 104 (Int.toNat 22) = am_B104_22 ∧ am_blk 104 (Int.toNat 23) = am_B104_23 := ⟨rfl, rfl, rfl⟩
theorem bk105_0 : am_blk 105 0 = am_B105_0 := rfl
theorem bh105_17 : am_blk 105 17 = am_B105_17 := rfl
theorem bn105_17 : am_blk 105 (Int.toNat 17) = am_blk 105 17 := rfl
theorem bk105_51 : am_blk 105 (Int.toNat 51) = am_B105_51 := rfl
theorem bk105_62 : am_blk 105 (Int.toNat 62) = am_B105_62 := rfl
theorem bk105_76 : am_blk 105 (Int.toNat 76) = am_B105_76 := rfl
theorem bk105_78 : am_blk 105 (Int.toNat 78) = am_B105_78 := rfl
theorem bk105_95 : am_blk 105 (Int.toNat 95) = am_B105_95 := rfl
theorem bs105 : am_blk 105 0 = am_B105_0 ∧ am_blk 105 (Int.toNat 17) = am_blk 105 17 ∧ am_blk 105 (Int.toNat 51) = am_B105_51 ∧ am_blk 105 (Int.toNat 62) = am_B105_62 ∧ am_blk 105 (Int.toNat 76) = am_B105_76 ∧ am_blk 105 (Int.toNat 78) = am_B105_78 ∧ am_blk 105 (Int.toNat 95) = am_B105_95 := ⟨rfl, rfl, rfl, rfl, rfl, rfl, rfl⟩
theorem bk106_0 : am_blk 106 0 = am_B106_0 := rfl
theorem bs106 : am_blk 106 0 = am_B106_0 := rfl
theorem bk107_0 : am_blk 107 0 = am_B107_0 := rfl
theorem bk107_22 : am_blk 107 (Int.toNat 22) = am_B107_22 := rfl
theorem bk107_28 : am_blk 107 (Int.toNat 28) = am_B107_28 := rfl
theorem bs107 : am_blk 107 0 = am_B107_0 ∧ am_blk 107 (Int.toNat 22) = am_B107_22 ∧ am_blk 107 (Int.toNat 28) = am_B107_28 := ⟨rfl, rfl, rfl⟩
theorem bk108_0 : am_blk 108 0 = am_B108_0 := rfl
theorem bs108 : am_blk 108 0 = am_B108_0 := rfl
theorem bk109_0 : am_blk 109 0 = am_B109_0 := rfl
theorem bk109_22 : am_blk 109 (Int.toNat 22) = am_B109_22 := rfl
theorem bk109_28 : am_blk 109 (Int.toNat 28) = am_B109_28 := rfl
theorem bs109 : am_blk 109 0 = am_B109_0 ∧ am_blk 109 (Int.toNat 22) = am_B109_22 ∧ am_blk 109 (Int.toNat 28) = am_B109_28 := ⟨rfl, rfl, rfl⟩
theorem bk110_0 : am_blk 110 0 = am_B110_0 := rfl
theorem bs110 : am_blk 110 0 = am_B110_0 := rfl
theorem bk111_0 : am_blk 111 0 = am_B111_0 := rfl
theorem bk111_28 : am_blk 111 (Int.toNat 28) = am_B111_28 := rfl
theorem bk111_34 : am_blk 111 (Int.toNat 34) = am_B111_34 := rfl
theorem bs111 : am_blk 111 0 = am_B111_0 ∧ am_blk 111 (Int.toNat 28) = am_B111_28 ∧ am_blk 111 (Int.toNat 34) = am_B111_34 := ⟨rfl, rfl, rfl⟩
theorem bk112_0 : am_blk 112 0 = am_B112_0 := rfl
theorem bk112_17 : am_blk 112 (Int.toNat 17) = am_B112_17 := rfl
theorem bk112_24 : am_blk 112 (Int.toNat 24) = am_B112_24 := rfl
theorem bh112_37 : am_blk 112 37 = am_B112_37 := rfl
theorem bn112_37 : am_blk 112 (Int.toNat 37) = am_blk 112 37 := rfl
theorem bk112_76 : am_blk 112 (Int.toNat 76) = am_B112_76 := rfl
theorem bk112_82 : am_blk 112 (Int.toNat 82) = am_B112_82 := rfl
theorem bs112 : am_blk 112 0 = am_B112_0 ∧ am_blk 112 (Int.toNat 17) = am_B112_17 ∧ am_blk 112 (Int.toNat 24) = am_B112_24 ∧ am_blk 112 (Int.toNat 37) = am_blk 112 37 ∧ am_blk 112 (Int.toNat 76) = am_B112_76 ∧ am_blk 112 (Int.toNat 82) = am_B112_82 := ⟨rfl, rfl, rfl, rfl, rfl, rfl⟩
theorem bk113_0 : am_blk 113 0 = am_B113_0 := rfl
theorem bk113_17 : am_blk 113 (Int.toNat 17) = am_B113_17 := rfl
theorem bk113_24 : am_blk 113 (Int.toNat 24) = am_B113_24 := rfl
theorem bh113_42 : am_blk 113 42 = am_B113_42 := rfl
theorem bn113_42 : am_blk 113 (Int.toNat 42) = am_blk 113 42 := rfl
theorem bk113_72 : am_blk 113 (Int.toNat 72) = am_B113_72 := rfl
theorem bk113_74 : am_blk 113 (Int.toNat 74) = am_B113_74 := rfl
theorem bk113_82 : am_blk 113 (Int.toNat 82) = am_B113_82 := rfl
theorem bs113 : am_blk 113 0 = am_B113_0 ∧ am_blk 113 (Int.toNat 17) = am_B113_17 ∧ am_blk 113 (Int.toNat 24) = am_B113_24 ∧ am_blk 113 (Int.toNat 42) = am_blk 113 42 ∧ am_blk 113 (Int.toNat 72) = am_B113_72 ∧ am_blk 113 (Int.toNat 74) = am_B113_74 ∧ am_blk 113 (Int.toNat 82) = am_B113_82 := ⟨rfl, rfl, rfl, rfl, rfl, rfl, rfl⟩
theorem bk114_0 : am_blk 114 0 = am_B114_0 := rfl
theorem bs114 : am_blk 114 0 = am_B114_0 := rfl
theorem bk115_0 : am_blk 115 0 = am_B115_0 := rfl
theorem bk115_17 : am_blk 115 (Int.toNat 17) = am_B115_17 := rfl
theorem bk115_24 : am_blk 115 (Int.toNat 24) = am_B115_24 := rfl
theorem bh115_29 : am_blk 115 29 = am_B115_29 := rfl
theorem bn115_29 : am_blk 115 (Int.toNat 29) = am_blk 115 29 := rfl
theorem bk115_59 : am_blk 115 (Int.toNat 59) = am_B115_59 := rfl
theorem bk115_63 : am_blk 115 (Int.toNat 63) = am_B115_63 := rfl
theorem bk115_64 : am_blk 115 (Int.toNat 64) = am_B115_64 := rfl
theorem bk115_85 : am_blk 115 (Int.toNat 85) = am_B115_85 := rfl
theorem bk115_91 : am_blk 115 (Int.toNat 91) = am_B115_91 := rfl
theorem bk115_104 : am_blk 115 (Int.toNat 104) = am_B115_104 := rfl
theorem bk115_105 : am_blk 115 (Int.toNat 105) = am_B115_105 := rfl
theorem bs115 : am_blk 115 0 = am_B115_0 ∧ am_blk 115 (Int.toNat 17) = am_B115_17 ∧ am_blk 115 (Int.toNat 24) = am_B115_24 ∧ am_blk 115 (Int.toNat 29) = am_blk 115 29 ∧ am_blk 115 (Int.toNat 59) = am_B115_59 ∧ am_blk 115 (Int.toNat 63) = am_B115_63 ∧ am_blk 115 (Int.toNat 64) = am_B115_64 ∧ am_blk 115 (Int.toNat 85) = am_B115_85 ∧ am_blk 115 (Int.toNat 91) = am_B115_91 ∧ am_blk 115 (Int.toNat 104) = am_B115_104 ∧ am_blk 115 (Int.toNat 105) = am_B115_105 := ⟨rfl, rfl, rfl, rfl, rfl, rfl, rfl, rfl, rfl, rfl, rfl⟩
theorem bk116_0 : am_blk 116 0 = am_B116_0 := rfl
theorem bh116_13 : am_blk 116 13 = am_B116_13 := rfl
theorem bn116_13 : am_blk 116 (Int.toNat 13) = am_blk 116 13 := rfl
theorem bk116_43 : am_blk 116 (Int.toNat 43) = am_B116_43 := rfl
theorem bk116_49 : am_blk 116 (Int.toNat 49) = am_B116_49 := rfl
theorem bs116 : am_blk 116 0 = am_B116_0 ∧ am_blk 116 (Int.toNat 13) = am_blk 116 13 ∧ am_blk 116 (Int.toNat 43) = am_B116_43 ∧ am_blk 116 (Int.toNat 49) = am_B116_49 := ⟨rfl, rfl, rfl, rfl⟩
theorem bk117_0 : am_blk 117 0 = am_B117_0 := rfl
theorem bk117_17 : am_blk 117 (Int.toNat 17) = am_B117_17 := rfl
theorem bk117_24 : am_blk 117 (Int.toNat 24) = am_B117_24 := rfl
theorem bh117_29 : am_blk 117 29 = am_B117_29 := rfl
theorem bn117_29 : am_blk 117 (Int.toNat 29) = am_blk 117 29 := rfl
theorem bk117_58 : am_blk 117 (Int.toNat 58) = am_B117_58 := rfl
theorem bk117_62 : am_blk 117 (Int.toNat 62) = am_B117_62 := rfl
theorem bk117_63 : am_blk 117 (Int.toNat 63) = am_B117_63 := rfl
theorem bk117_86 : am_blk 117 (Int.toNat 86) = am_B117_86 := rfl
theorem bk117_87 : am_blk 117 (Int.toNat 87) = am_B117_87 := rfl
theorem bk117_94 : am_blk 117 (Int.toNat 94) = am_B117_94 := rfl
theorem bs117 : am_blk 117 0 = am_B117_0 ∧ am_blk 117 (Int.toNat 17) = am_B117_17 ∧ am_blk 117 (Int.toNat 24) = am_B117_24 ∧ am_blk 117 (Int.toNat 29) = am_blk 117 29 ∧ am_blk 117 (Int.toNat 58) = am_B117_58 ∧ am_blk 117 (Int.toNat 62) = am_B117_62 ∧ am_blk 117 (Int.toNat 63) = am_B117_63 ∧ am_blk 117 (Int.toNat 86) = am_B117_86 ∧ am_blk 117 (Int.toNat 87) = am_B117_87 ∧ am_blk 117 (Int.toNat 94) = am_B117_94 := ⟨rfl, rfl, rfl, rfl, rfl, rfl, rfl, rfl, rfl, rfl⟩
theorem bk118_0 : am_blk 118 0 = am_B118_0 := rfl
theorem bh118_13 : am_blk 118 13 = am_B118_13 := rfl
theorem bn118_13 : am_blk 118 (Int.toNat 13) = am_blk 118 13 := rfl
theorem bk118_44 : am_blk 118 (Int.toNat 44) = am_B118_44 := rfl
theorem bk118_50 : am_blk 118 (Int.toNat 50) = am_B118_50 := rfl
theorem bk118_57 : am_blk 118 (Int.toNat 57) = am_B118_57 := rfl
theorem bs118 : am_blk 118 0 = am_B118_0 ∧ am_blk 118 (Int.toNat 13) = am_blk 118 13 ∧ am_blk 118 (Int.toNat 44) = am_B118_44 ∧ am_blk 118 (Int.toNat 50) = am_B118_50 ∧ am_blk 118 (Int.toNat 57) = am_B118_57 := ⟨rfl, rfl, rfl, rfl, rfl⟩
theorem bk119_0 : am_blk 119 0 = am_B119_0 := rfl
theorem bk119_13 : am_blk 119 (Int.toNat 13) = am_B119_13 := rfl
theorem bk119_14 : am_blk 119 (Int.toNat 14) = am_B119_14 := rfl
theorem bs119 : am_blk 119 0 = am_B119_0 ∧ am_blk 119 (Int.toNat 13) = am_B119_13 ∧ am_blk 119 (Int.toNat 14) = am_B119_14 := ⟨rfl, rfl, rfl⟩
theorem bk120_0 : am_blk 120 0 = am_B120_0 := rfl
theorem bk120_17 : am_blk 120 (Int.toNat 17) = am_B120_17 := rfl
theorem bh120_23 : am_blk 120 23 = am_B120_23 := rfl
theorem bn120_23 : am_blk 120 (Int.toNat 23) = am_blk 120 23 := rfl
theorem bk120_93 : am_blk 120 (Int.toNat 93) = am_B120_93 := rfl
theorem bk120_99 : am_blk 120 (Int.toNat 99) = am_B120_99 := rfl
theorem bs120 : am_blk 120 0 = am_B120_0 ∧ am_blk 120 (Int.toNat 17) = am_B120_17 ∧ am_blk 120 (Int.toNat 23) = am_blk 120 23 ∧ am_blk 120 (Int.toNat 93) = am_B120_93 ∧ am_blk 120 (Int.toNat 99) = am_B120_99 := ⟨rfl, rfl, rfl, rfl, rfl⟩
theorem bk121_0 : am_blk 121 0 = am_B121_0 := rfl
theorem bh121_6 : am_blk 121 6 = am_B121_6 := rfl
theorem bn121_6 : am_blk 121 (Int.toNat 6) = am_blk 121 6 := rfl
theorem bk121_33 : am_blk 121 (Int.toNat 33) = am_B121_33 := rfl
theorem bk121_34 : am_blk 121 (Int.toNat 34) = am_B121_34 := rfl
theorem bk121_48 : am_blk 121 (Int.toNat 48) = am_B121_48 := rfl
theorem bs121 : am_blk 121 0 = am_B121_0 ∧ am_blk 121 (Int.toNat 6) = am_blk 121 6 ∧ am_blk 121 (Int.toNat 33) = am_B121_33 ∧ am_blk 121 (Int.toNat 34) = am_B121_34 ∧ am_blk 121 (Int.toNat 48) = am_B121_48 := ⟨rfl, rfl, rfl, rfl, rfl⟩
theorem bk122_0 : am_blk 122 0 = am_B122_0 := rfl
theorem bs122 : am_blk 122 0 = am_B122_0 := rfl
theorem bk123_0 : am_blk 123 0 = am_B123_0 := rfl
theorem bk123_17 : am_blk 123 (Int.toNat 17) = am_B123_17 := rfl
theorem bk123_35 : am_blk 123 (Int.toNat 35) = am_B123_35 := rfl
theorem bh123_42 : am_blk 123 42 = am_B123_42 := rfl
theorem bn123_42 : am_blk 123 (Int.toNat 42) = am_blk 123 42 := rfl
theorem bh123_60 : am_blk 123 60 = am_B123_60 := rfl
theorem bn123_60 : am_blk 123 (Int.toNat 60) = am_blk 123 60 := rfl
theorem bk123_101 : am_blk 123 (Int.toNat 101) = am_B123_101 := rfl
theorem bk123_107 : am_blk 123 (Int.toNat 107) = am_B123_107 := rfl
theorem bk123_113 : am_blk 123 (Int.toNat 113) = am_B123_113 := rfl
theorem bs123 : am_blk 123 0 = am_B123_0 ∧ am_blk 123 (Int.toNat 17) = am_B123_17 ∧ am_blk 123 (Int.toNat 35) = am_B123_35 ∧ am_blk 123 (Int.toNat 42) = am_blk 123 42 ∧ am_blk 123 (Int.toNat 60) = am_blk 123 60 ∧ am_blk 123 (Int.toNat 101) = am_B123_101 ∧ am_blk 123 (Int.toNat 107) = am_B123_107 ∧ am_blk 123 (Int.toNat 113) = am_B123_113 := ⟨rfl, rfl, rfl, rfl, rfl, rfl, rfl, rfl⟩
theorem bk124_0 : am_blk 124 0 = am_B124_0 := rfl
theorem bs124 : am_blk 124 0 = am_B124_0 := rfl
theorem bk125_0 : am_blk 125 0 = am_B125_0 := rfl
theorem bk125_17 : am_blk 125 (Int.toNat 17) = am_B125_17 := rfl
theorem bh125_24 : am_blk 125 24 = am_B125_24 := rfl
theorem bn125_24 : am_blk 125 (Int.toNat 24) = am_blk 125 24 := rfl
theorem bh125_41 : am_blk 125 41 = am_B125_41 := rfl
theorem bn125_41 : am_blk 125 (Int.toNat 41) = am_blk 125 41 := rfl
theorem bk125_80 : am_blk 125 (Int.toNat 80) = am_B125_80 := rfl
theorem bk125_81 : am_blk 125 (Int.toNat 81) = am_B125_81 := rfl
theorem bk125_95 : am_blk 125 (Int.toNat 95) = am_B125_95 := rfl
theorem bk125_101 : am_blk 125 (Int.toNat 101) = am_B125_101 := rfl
theorem bs125 : am_blk 125 0 = am_B125_0 ∧ am_blk 125 (Int.toNat 17) = am_B125_17 ∧ am_blk 125 (Int.toNat 24) = am_blk 125 24 ∧ am_blk 125 (Int.toNat 41) = am_blk 125 41 ∧ am_blk 125 (Int.toNat 80) = am_B125_80 ∧ am_blk 125 (Int.toNat 81) = am_B125_81 ∧ am_blk 125 (Int.toNat 95) = am_B125_95 ∧ am_blk 125 (Int.toNat 101) = am_B125_101 := ⟨rfl, rfl, rfl, rfl, rfl, rfl, rfl, rfl⟩
theorem bk126_0 : am_blk 126 0 = am_B126_0 := rfl
theorem bs126 : am_blk 126 0 = am_B126_0 := rfl
theorem bk127_0 : am_blk 127 0 = am_B127_0 := rfl
theorem bs127 : am_blk 127 0 = am_B127_0 := rfl
theorem bk128_0 : am_blk 128 0 = am_B128_0 := rfl
theorem bk128_14 : am_blk 128 (Int.toNat 14) = am_B128_14 := rfl
theorem bk128_33 : am_blk 128 (Int.toNat 33) = am_B128_33 := rfl
theorem bk128_48 : am_blk 128 (Int.toNat 48) = am_B128_48 := rfl
theorem bh128_54 : am_blk 128 54 = am_B128_54 := rfl
theorem bn128_54 : am_blk 128 (Int.toNat 54) = am_blk 128 54 := rfl
theorem bk128_101 : am_blk 128 (Int.toNat 101) = am_B128_101 := rfl
theorem bk128_107 : am_blk 128 (Int.toNat 107) = am_B128_107 := rfl
theorem bs128 : am_blk 128 0 = am_B128_0 ∧ am_blk 128 (Int.toNat 14) = am_B128_14 ∧ am_blk 128 (Int.toNat 33) = am_B128_33 ∧ am_blk 128 (Int.toNat 48) = am_B128_48 ∧ am_blk 128 (Int.toNat 54) = am_blk 128 54 ∧ am_blk 128 (Int.toNat 101) = am_B128_101 ∧ am_blk 128 (Int.toNat 107) = am_B128_107 := ⟨rfl, rfl, rfl, rfl, rfl, rfl, rfl⟩
theorem bk129_0 : am_blk 129 0 = am_B129_0 := rfl
theorem bs129 : am_blk 129 0 = am_B129_0 := rfl
theorem bk130_0 : am_blk 130 0 = am_B130_0 := rfl
theorem bk130_11 : am_blk 130 (Int.toNat 11) = am_B130_11 := rfl
theorem bk130_12 : am_blk 130 (Int.toNat 12) = am_B130_12 := rfl
theorem bs130 : am_blk 130 0 = am_B130_0 ∧ am_blk 130 (Int.toNat 11) = am_B130_11 ∧ am_blk 130 (Int.toNat 12) = am_B130_12 := ⟨rfl, rfl, rfl⟩
theorem bk131_0 : am_blk 131 0 = am_B131_0 := rfl
theorem bh131_25 : am_blk 131 25 = am_B131_25 := rfl
theorem bn131_25 : am_blk 131 (Int.toNat 25) = am_blk 131 25 := rfl
theorem bk131_65 : am_blk 131 (Int.toNat 65) = am_B131_65 := rfl
theorem bk131_79 : am_blk 131 (Int.toNat 79) = am_B131_79 := rfl
theorem bs131 : am_blk 131 0 = am_B131_0 ∧ am_blk 131 (Int.toNat 25) = am_blk 131 25 ∧ am_blk 131 (Int.toNat 65) = am_B131_65 ∧ am_blk 131 (Int.toNat 79) = am_B131_79 := ⟨rfl, rfl, rfl, rfl⟩
theorem bk132_0 : am_blk 132 0 = am_B132_0 := rfl
theorem bk132_18 : am_blk 132 (Int.toNat 18) = am_B132_18 := rfl
theorem bk132_38 : am_blk 132 (Int.toNat 38) = am_B132_38 := rfl
theorem bk132_44 : am_blk 132 (Int.toNat 44) = am_B132_44 := rfl
theorem bs132 : am_blk 132 0 = am_B132_0 ∧ am_blk 132 (Int.toNat 18) = am_B132_18 ∧ am_blk 132 (Int.toNat 38) = am_B132_38 ∧ am_blk 132 (Int.toNat 44) = am_B132_44 := ⟨rfl, rfl, rfl, rfl⟩
theorem bk133_0 : am_blk 133 0 = am_B133_0 := rfl
theorem bk133_12 : am_blk 133 (Int.toNat 12) = am_B133_12 := rfl
theorem bk133_26 : am_blk 133 (Int.toNat 26) = am_B133_26 := rfl
theorem bk133_27 : am_blk 133 (Int.toNat 27) = am_B133_27 := rfl
theorem bs133 : am_blk 133 0 = am_B133_0 ∧ am_blk 133 (Int.toNat 12) = am_B133_12 ∧ am_blk 133 (Int.toNat 26) = am_B133_26 ∧ am_blk 133 (Int.toNat 27) = am_B133_27 := ⟨rfl, rfl, rfl, rfl⟩
theorem bk134_0 : am_blk 134 0 = am_B134_0 := rfl
theorem bs134 : am_blk 134 0 = am_B134_0 := rfl
theorem bk135_0 : am_blk 135 0 = am_B135_0 := rfl
theorem bh135_14 : am_blk 135 14 = am_B135_14 := rfl
theorem bn135_14 : am_blk 135 (Int.toNat 14) = am_blk 135 14 := rfl
theorem bk135_51 : am_blk 135 (Int.toNat 51) = am_B135_51 := rfl
theorem bk135_52 : am_blk 135 (Int.toNat 52) = am_B135_52 := rfl
theorem bk135_61 : am_blk 135 (Int.toNat 61) = am_B135_61 := rfl
theorem bs135 : am_blk 135 0 = am_B135_0 ∧ am_blk 135 (Int.toNat 14) = am_blk 135 14 ∧ am_blk 135 (Int.toNat 51) = am_B135_51 ∧ am_blk 135 (Int.toNat 52) = am_B135_52 ∧ am_blk 135 (Int.toNat 61) = am_B135_61 := ⟨rfl, rfl, rfl, rfl, rfl⟩
theorem bk136_0 : am_blk 136 0 = am_B136_0 := rfl
theorem bh136_16 : am_blk 136 16 = am_B136_16 := rfl
theorem bn136_16 : am_blk 136 (Int.toNat 16) = am_blk 136 16 := rfl
theorem bk136_62 : am_blk 136 (Int.toNat 62) = am_B136_62 := rfl
theorem bk136_66 : am_blk 136 (Int.toNat 66) = am_B136_66 := rfl
theorem bk136_67 : am_blk 136 (Int.toNat 67) = am_B136_67 := rfl
theorem bk136_78 : am_blk 136 (Int.toNat 78) = am_B136_78 := rfl
theorem bs136 : am_blk 136 0 = am_B136_0 ∧ am_blk 136 (Int.toNat 16) = am_blk 136 16 ∧ am_blk 136 (Int.toNat 62) = am_B136_62 ∧ am_blk 136 (Int.toNat 66) = am_B136_66 ∧ am_blk 136 (Int.toNat 67) = am_B136_67 ∧ am_blk 136 (Int.toNat 78) = am_B136_78 := ⟨rfl, rfl, rfl, rfl, rfl, rfl⟩
theorem bk137_0 : am_blk 137 0 = am_B137_0 := rfl
theorem bs137 : am_blk 137 0 = am_B137_0 := rfl
theorem bk138_0 : am_blk 138 0 = am_B138_0 := rfl
theorem bk138_18 : am_blk 138 (Int.toNat 18) = am_B138_18 := rfl
theorem bk138_38 : am_blk 138 (Int.toNat 38) = am_B138_38 := rfl
theorem bk138_44 : am_blk 138 (Int.toNat 44) = am_B138_44 := rfl
theorem bs138 : am_blk 138 0 = am_B138_0 ∧ am_blk 138 (Int.toNat 18) = am_B138_18 ∧ am_blk 138 (Int.toNat 38) = am_B138_38 ∧ am_blk 138 (Int.toNat 44) = am_B138_44 := ⟨rfl, rfl, rfl, rfl⟩
theorem bk139_0 : am_blk 139 0 = am_B139_0 := rfl
theorem bk139_17 : am_blk 139 (Int.toNat 17) = am_B139_17 := rfl
theorem bk139_38 : am_blk 139 (Int.toNat 38) = am_B139_38 := rfl
theorem bh139_40 : am_blk 139 40 = am_B139_40 := rfl
theorem bn139_40 : am_blk 139 (Int.toNat 40) = am_blk 139 40 := rfl
theorem bk139_86 : am_blk 139 (Int.toNat 86) = am_B139_86 := rfl
theorem bk139_100 : am_blk 139 (Int.toNat 100) = am_B139_100 := rfl
theorem bs139 : am_blk 139 0 = am_B139_0 ∧ am_blk 139 (Int.toNat 17) = am_B139_17 ∧ am_blk 139 (Int.toNat 38) = am_B139_38 ∧ am_blk 139 (Int.toNat 40) = am_blk 139 40 ∧ am_blk 139 (Int.toNat 86) = am_B139_86 ∧ am_blk 139 (Int.toNat 100) = am_B139_100 := ⟨rfl, rfl, rfl, rfl, rfl, rfl⟩
theorem bk140_0 : am_blk 140 0 = am_B140_0 := rfl
theorem bs140 : am_blk 140 0 = am_B140_0 := rfl
theorem bk141_0 : am_blk 141 0 = am_B141_0 := rfl
theorem bk141_17 : am_blk 141 (Int.toNat 17) = am_B141_17 := rfl
theorem bk141_37 : am_blk 141 (Int.toNat 37) = am_B141_37 := rfl
theorem bh141_39 : am_blk 141 39 = am_B141_39 := rfl
theorem bn141_39 : am_blk 141 (Int.toNat 39) = am_blk 141 39 := rfl
theorem bk141_78 : am_blk 141 (Int.toNat 78) = am_B141_78 := rfl
theorem bs141 : am_blk 141 0 = am_B141_0 ∧ am_blk 141 (Int.toNat 17) = am_B141_17 ∧ am_blk 141 (Int.toNat 37) = am_B141_37 ∧ am_blk 141 (Int.toNat 39) = am_blk 141 39 ∧ am_blk 141 (Int.toNat 78) = am_B141_78 := ⟨rfl, rfl, rfl, rfl, rfl⟩
theorem bk142_0 : am_blk 142 0 = am_B142_0 := rfl
theorem bs142 : am_blk 142 0 = am_B142_0 := rfl
theorem bk143_0 : am_blk 143 0 = am_B143_0 := rfl
theorem bk143_19 : am_blk 143 (Int.toNat 19) = am_B143_19 := rfl
theorem bk143_27 : am_blk 143 (Int.toNat 27) = am_B143_27 := rfl
theorem bh143_55 : am_blk 143 55 = am_B143_55 := rfl
theorem bn143_55 : am_blk 143 (Int.toNat 55) = am_blk 143 55 := rfl
theorem bk143_83 : am_blk 143 (Int.toNat 83) = am_B143_83 := rfl
theorem bk143_91 : am_blk 143 (Int.toNat 91) = am_B143_91 := rfl
theorem bk143_93 : am_blk 143 (Int.toNat 93) = am_B143_93 := rfl
theorem bs143 : am_blk 143 0 = am_B143_0 ∧ am_blk 143 (Int.toNat 19) = am_B143_19 ∧ am_blk 143 (Int.toNat 27) = am_B143_27 ∧ am_blk 143 (Int.toNat 55) = am_blk 143 55 ∧ am_blk 143 (Int.toNat 83) = am_B143_83 ∧ am_blk 143 (Int.toNat 91) = am_B143_91 ∧ am_blk 143 (Int.toNat 93) = am_B143_93 := ⟨rfl, rfl, rfl, rfl, rfl, rfl, rfl⟩
theorem bk144_0 : am_blk 144 0 = am_B144_0 := rfl
theorem bh144_5 : am_blk 144 5 = am_B144_5 := rfl
theorem bn144_5 : am_blk 144 (Int.toNat 5) = am_blk 144 5 := rfl
theorem bk144_22 : am_blk 144 (Int.toNat 22) = am_B144_22 := rfl
theorem bs144 : am_blk 144 0 = am_B144_0 ∧ am_blk 144 (Int.toNat 5) = am_blk 144 5 ∧ am_blk 144 (Int.toNat 22) = am_B144_22 := ⟨rfl, rfl, rfl⟩
theorem bk145_0 : am_blk 145 0 = am_B145_0 := rfl
theorem bk145_19 : am_blk 145 (Int.toNat 19) = am_B145_19 := rfl
theorem bk145_27 : am_blk 145 (Int.toNat 27) = am_B145_27 := rfl
theorem bh145_45 : am_blk 145 45 = am_B145_45 := rfl
theorem bn145_45 : am_blk 145 (Int.toNat 45) = am_blk 145 45 := rfl
theorem bk145_68 : am_blk 145 (Int.toNat 68) = am_B145_68 := rfl
theorem bh145_74 : am_blk 145 74 = am_B145_74 := rfl
theorem bn145_74 : am_blk 145 (Int.toNat 74) = am_blk 145 74 := rfl
theorem bk145_90 : am_blk 145 (Int.toNat 90) = am_B145_90 := rfl
theorem bk145_92 : am_blk 145 (Int.toNat 92) = am_B145_92 := rfl
theorem bk145_105 : am_blk 145 (Int.toNat 105) = am_B145_105 := rfl
theorem bs145 : am_blk 145 0 = am_B145_0 ∧ am_blk 145 (Int.toNat 19) = am_B145_19 ∧ am_blk 145 (Int.toNat 27) = am_B145_27 ∧ am_blk 145 (Int.toNat 45) = am_blk 145 45 ∧ am_blk 145 (Int.toNat 68) = am_B145_68 ∧ am_blk 145 (Int.toNat 74) = am_blk 145 74 ∧ am_blk 145 (Int.toNat 90) = am_B145_90 ∧ am_blk 145 (Int.toNat 92) = am_B145_92 ∧ am_blk 145 (Int.toNat 105) = am_B145_105 := ⟨rfl, rfl, rfl, rfl, rfl, rfl, rfl, rfl, rfl⟩
theorem bk146_0 : am_blk 146 0 = am_B146_0 := rfl
theorem bs146 : am_blk 146 0 = am_B146_0 := rfl
theorem bk147_0 : am_blk 147 0 = am_B147_0 := rfl
theorem bs147 : am_blk 147 0 = am_B147_0 := rfl
theorem bk148_0 : am_blk 148 0 = am_B148_0 := rfl
theorem bk148_16 : am_blk 148 (Int.toNat 16) = am_B148_16 := rfl
theorem bk148_40 : am_blk 148 (Int.toNat 40) = am_B148_40 := rfl
theorem bh148_44 : am_blk 148 44 = am_B148_44 := rfl
theorem bn148_44 : am_blk 148 (Int.toNat 44) = am_blk 148 44 := rfl
theorem bk148_74 : am_blk 148 (Int.toNat 74) = am_B148_74 := rfl
theorem bs148 : am_blk 148 0 = am_B148_0 ∧ am_blk 148 (Int.toNat 16) = am_B148_16 ∧ am_blk 148 (Int.toNat 40) = am_B148_40 ∧ am_blk 148 (Int.toNat 44) = am_blk 148 44 ∧ am_blk 148 (Int.toNat 74) = am_B148_74 := ⟨rfl, rfl, rfl, rfl, rfl⟩
theorem bk149_0 : am_blk 149 0 = am_B149_0 := rfl
theorem bk149_29 : am_blk 149 (Int.toNat 29) = am_B149_29 := rfl
theorem bs149 : am_blk 149 0 = am_B149_0 ∧ am_blk 149 (Int.toNat 29) = am_B149_29 := ⟨rfl, rfl⟩
theorem bk150_0 : am_blk 150 0 = am_B150_0 := rfl
theorem bk150_16 : am_blk 150 (Int.toNat 16) = am_B150_16 := rfl
theorem bk150_34 : am_blk 150 (Int.toNat 34) = am_B150_34 := rfl
theorem bh150_38 : am_blk 150 38 = am_B150_38 := rfl
theorem bn150_38 : am_blk 150 (Int.toNat 38) = am_blk 150 38 := rfl
theorem bk150_77 : am_blk 150 (Int.toNat 77) = am_B150_77 := rfl
theorem bs150 : am_blk 150 0 = am_B150_0 ∧ am_blk 150 (Int.toNat 16) = am_B150_16 ∧ am_blk 150 (Int.toNat 34) = am_B150_34 ∧ am_blk 150 (Int.toNat 38) = am_blk 150 38 ∧ am_blk 150 (Int.toNat 77) = am_B150_77 := ⟨rfl, rfl, rfl, rfl, rfl⟩
theorem bk151_0 : am_blk 151 0 = am_B151_0 := rfl
theorem bs151 : am_blk 151 0 = am_B151_0 := rfl
theorem bk152_0 : am_blk 152 0 = am_B152_0 := rfl
theorem bs152 : am_blk 152 0 = am_B152_0 := rfl
theorem bk153_0 : am_blk 153 0 = am_B153_0 := rfl
theorem bk153_47 : am_blk 153 (Int.toNat 47) = am_B153_47 := rfl
theorem bs153 : am_blk 153 0 = am_B153_0 ∧ am_blk 153 (Int.toNat 47) = am_B153_47 := ⟨rfl, rfl⟩
theorem bk154_0 : am_blk 154 0 = am_B154_0 := rfl
theorem bh154_12 : am_blk 154 12 = am_B154_12 := rfl
theorem bn154_12 : am_blk 154 (Int.toNat 12) = am_blk 154 12 := rfl
theorem bk154_33 : am_blk 154 (Int.toNat 33) = am_B154_33 := rfl
theorem bk154_55 : am_blk 154 (Int.toNat 55) = am_B154_55 := rfl
theorem bk154_71 : am_blk 154 (Int.toNat 71) = am_B154_71 := rfl
theorem bk154_81 : am_blk 154 (Int.toNat 81) = am_B154_81 := rfl
theorem bs154 : am_blk 154 0 = am_B154_0 ∧ am_blk 154 (Int.toNat 12) = am_blk 154 12 ∧ am_blk 154 (Int.toNat 33) = am_B154_33 ∧ am_blk 154 (Int.toNat 55) = am_B154_55 ∧ am_blk 154 (Int.toNat 71) = am_B154_71 ∧ am_blk 154 (Int.toNat 81) = am_B154_81 := ⟨rfl, rfl, rfl, rfl, rfl, rfl⟩
theorem bk155_0 : am_blk 155 0 = am_B155_0 := rfl
theorem bs155 : am_blk 155 0 = am_B155_0 := rfl
theorem bk156_0 : am_blk 156 0 = am_B156_0 := rfl
theorem bh156_8 : am_blk 156 8 = am_B156_8 := rfl
theorem bn156_8 : am_blk 156 (Int.toNat 8) = am_blk 156 8 := rfl
theorem bk156_46 : am_blk 156 (Int.toNat 46) = am_B156_46 := rfl
theorem bk156_71 : am_blk 156 (Int.toNat 71) = am_B156_71 := rfl
theorem bk156_105 : am_blk 156 (Int.toNat 105) = am_B156_105 := rfl
theorem bk156_129 : am_blk 156 (Int.toNat 129) = am_B156_129 := rfl
theorem bk156_140 : am_blk 156 (Int.toNat 140) = am_B156_140 := rfl
theorem bk156_141 : am_blk 156 (Int.toNat 141) = am_B156_141 := rfl
theorem bk156_154 : am_blk 156 (Int.toNat 154) = am_B156_154 := rfl
theorem bs156 : am_blk 156 0 = am_B156_0 ∧ am_blk 156 (Int.toNat 8) = am_blk 156 8 ∧ am_blk 156 (Int.toNat 46) = am_B156_46 ∧ am_blk 156 (Int.toNat 71) = am_B156_71 ∧ am_blk 156 (Int.toNat 105) = am_B156_105 ∧ am_blk 156 (Int.toNat 129) = am_B156_129 ∧ am_blk 156 (Int.toNat 140) = am_B156_140 ∧ am_blk 156 (Int.toNat 141) = am_B156_141 ∧ am_blk 156 (Int.toNat 154) = am_B156_154 := ⟨rfl, rfl, rfl, rfl, rfl, rfl, rfl, rfl, rfl⟩
theorem bh157_0 : am_blk 157 0 = am_B157_0 := rfl
theorem bn157_0 : am_blk 157 (Int.toNat 0) = am_blk 157 0 := rfl
theorem bk157_52 : am_blk 157 (Int.toNat 52) = am_B157_52 := rfl
theorem bs157 : am_blk 157 (Int.toNat 0) = am_blk 157 0 ∧ am_blk 157 (Int.toNat 52) = am_B157_52 := ⟨rfl, rfl⟩
theorem bk158_0 : am_blk 158 0 = am_B158_0 := rfl
theorem bh158_5 : am_blk 158 5 = am_B158_5 := rfl
theorem bn158_5 : am_blk 158 (Int.toNat 5) = am_blk 158 5 := rfl
theorem bk158_78 : am_blk 158 (Int.toNat 78) = am_B158_78 := rfl
theorem bk158_91 : am_blk 158 (Int.toNat 91) = am_B158_91 := rfl
theorem bs158 : am_blk 158 0 = am_B158_0 ∧ am_blk 158 (Int.toNat 5) = am_blk 158 5 ∧ am_blk 158 (Int.toNat 78) = am_B158_78 ∧ am_blk 158 (Int.toNat 91) = am_B158_91 := ⟨rfl, rfl, rfl, rfl⟩
theorem bk159_0 : am_blk 159 0 = am_B159_0 := rfl
theorem bk159_24 : am_blk 159 (Int.toNat 24) = am_B159_24 := rfl
theorem bk159_48 : am_blk 159 (Int.toNat 48) = am_B159_48 := rfl
theorem bk159_49 : am_blk 159 (Int.toNat 49) = am_B159_49 := rfl
theorem bk159_57 : am_blk 159 (Int.toNat 57) = am_B159_57 := rfl
theorem bs159 : am_blk 159 0 = am_B159_0 ∧ am_blk 159 (Int.toNat 24) = am_B159_24 ∧ am_blk 159 (Int.toNat 48) = am_B159_48 ∧ am_blk 159 (Int.toNat 49) = am_B159_49 ∧ am_blk 159 (Int.toNat 57) = am_B159_57 := ⟨rfl, rfl, rfl, rfl, rfl⟩
theorem bk160_0 : am_blk 160 0 = am_B160_0 := rfl
theorem bk160_24 : am_blk 160 (Int.toNat 24) = am_B160_24 := rfl
theorem bk160_26 : am_blk 160 (Int.toNat 26) = am_B160_26 := rfl
theorem bh160_28 : am_blk 160 28 = am_B160_28 := rfl
theorem bn160_28 : am_blk 160 (Int.toNat 28) = am_blk 160 28 := rfl
theorem bk160_57 : am_blk 160 (Int.toNat 57) = am_B160_57 := rfl
theorem bk160_63 : am_blk 160 (Int.toNat 63) = am_B160_63 := rfl
theorem bs160 : am_blk 160 0 = am_B160_0 ∧ am_blk 160 (Int.toNat 24) = am_B160_24 ∧ am_blk 160 (Int.toNat 26) = am_B160_26 ∧ am_blk 160 (Int.toNat 28) = am_blk 160 28 ∧ am_blk 160 (Int.toNat 57) = am_B160_57 ∧ am_blk 160 (Int.toNat 63) = am_B160_63 := ⟨rfl, rfl, rfl, rfl, rfl, rfl⟩
theorem bk161_0 : am_blk 161 0 = am_B161_0 := rfl
theorem bk161_11 : am_blk 161 (Int.toNat 11) = am_B161_11 := rfl
theorem bk161_38 : am_blk 161 (Int.toNat 38) = am_B161_38 := rfl
theorem bs161 : am_blk 161 0 = am_B161_0 ∧ am_blk 161 (Int.toNat 11) = am_B161_11 ∧ am_blk 161 (Int.toNat 38) = am_B161_38 := ⟨rfl, rfl, rfl⟩
theorem bk162_0 : am_blk 162 0 = am_B162_0 := rfl
theorem bk162_26 : am_blk 162 (Int.toNat 26) = am_B162_26 := rfl
theorem bk162_27 : am_blk 162 (Int.toNat 27) = am_B162_27 := rfl
theorem bs162 : am_blk 162 0 = am_B162_0 ∧ am_blk 162 (Int.toNat 26) = am_B162_26 ∧ am_blk 162 (Int.toNat 27) = am_B162_27 := ⟨rfl, rfl, rfl⟩
theorem bk163_0 : am_blk 163 0 = am_B163_0 := rfl
theorem bh163_2 : am_blk 163 2 = am_B163_2 := rfl
theorem bn163_2 : am_blk 163 (Int.toNat 2) = am_blk 163 2 := rfl
theorem bk163_24 : am_blk 163 (Int.toNat 24) = am_B163_24 := rfl
theorem bk163_30 : am_blk 163 (Int.toNat 30) = am_B163_30 := rfl
theorem bs163 : am_blk 163 0 = am_B163_0 ∧ am_blk 163 (Int.toNat 2) = am_blk 163 2 ∧ am_blk 163 (Int.toNat 24) = am_B163_24 ∧ am_blk 163 (Int.toNat 30) = am_B163_30 := ⟨rfl, rfl, rfl, rfl⟩
theorem bk164_0 : am_blk 164 0 = am_B164_0 := rfl
theorem bk164_40 : am_blk 164 (Int.toNat 40) = am_B164_40 := rfl
theorem bk164_43 : am_blk 164 (Int.toNat 43) = am_B164_43 := rfl
theorem bk164_46 : am_blk 164 (Int.toNat 46) = am_B164_46 := rfl
theorem bk164_49 : am_blk 164 (Int.toNat 49) = am_B164_49 := rfl
theorem bk164_52 : am_blk 164 (Int.toNat 52) = am_B164_52 := rfl
theorem bk164_55 : am_blk 164 (Int.toNat 55) = am_B164_55 := rfl
theorem bk164_58 : am_blk 164 (Int.toNat 58) = am_B164_58 := rfl
theorem bs164 : am_blk 164 0 = am_B164_0 ∧ am_blk 164 (Int.toNat 40) = am_B164_40 ∧ am_blk 164 (Int.toNat 43) = am_B164_43 ∧ am_blk 164 (Int.toNat 46) = am_B164_46 ∧ am_blk 164 (Int.toNat 49) = am_B164_49 ∧ am_blk 164 (Int.toNat 52) = am_B164_52 ∧ am_blk 164 (Int.toNat 55) = am_B164_55 ∧ am_blk 164 (Int.toNat 58) = am_B164_58 := ⟨rfl, rfl, rfl, rfl, rfl, rfl, rfl, rfl⟩
theorem bk165_0 : am_blk 165 0 = am_B165_0 := rfl
theorem bk165_44 : am_blk 165 (Int.toNat 44) = am_B165_44 := rfl
theorem bk165_45 : am_blk 165 (Int.toNat 45) = am_B165_45 := rfl
theorem bs165 : am_blk 165 0 = am_B165_0 ∧ am_blk 165 (Int.toNat 44) = am_B165_44 ∧ am_blk 165 (Int.toNat 45) = am_B165_45 := ⟨rfl, rfl, rfl⟩
theorem bk166_0 : am_blk 166 0 = am_B166_0 := rfl
theorem bk166_13 : am_blk 166 (Int.toNat 13) = am_B166_13 := rfl
theorem bk166_31 : am_blk 166 (Int.toNat 31) = am_B166_31 := rfl
theorem bs166 : am_blk 166 0 = am_B166_0 ∧ am_blk 166 (Int.toNat 13) = am_B166_13 ∧ am_blk 166 (Int.toNat 31) = am_B166_31 := ⟨rfl, rfl, rfl⟩
theorem bk167_0 : am_blk 167 0 = am_B167_0 := rfl
theorem bs167 : am_blk 167 0 = am_B167_0 := rfl
theorem bk168_0 : am_blk 168 0 = am_B168_0 := rfl
theorem bh168_33 : am_blk 168 33 = am_B168_33 := rfl
theorem bn168_33 : am_blk 168 (Int.toNat 33) = am_blk 168 33 := rfl
theorem bk168_74 : am_blk 168 (Int.toNat 74) = am_B168_74 := rfl
theorem bk168_86 : am_blk 168 (Int.toNat 86) = am_B168_86 := rfl
theorem bk168_87 : am_blk 168 (Int.toNat 87) = am_B168_87 := rfl
theorem bk168_109 : am_blk 168 (Int.toNat 109) = am_B168_109 := rfl
theorem bh168_113 : am_blk 168 113 = am_B168_113 := rfl
theorem bn168_113 : am_blk 168 (Int.toNat 113) = am_blk 168 113 := rfl
theorem bk168_136 : am_blk 168 (Int.toNat 136) = am_B168_136 := rfl
theorem bk168_137 : am_blk 168 (Int.toNat 137) = am_B168_137 := rfl
theorem bk168_145 : am_blk 168 (Int.toNat 145) = am_B168_145 := rfl
theorem bs168 : am_blk 168 0 = am_B168_0 ∧ am_blk 168 (Int.toNat 33) = am_blk 168 33 ∧ am_blk 168 (Int.toNat 74) = am_B168_74 ∧ am_blk 168 (Int.toNat 86) = am_B168_86 ∧ am_blk 168 (Int.toNat 87) = am_B168_87 ∧ am_blk 168 (Int.toNat 109) = am_B168_109 ∧ am_blk 168 (Int.toNat 113) = am_blk 168 113 ∧ am_blk 168 (Int.toNat 136) = am_B168_136 ∧ am_blk 168 (Int.toNat 137) = am_B168_137 ∧ am_blk 168 (Int.toNat 145) = am_B168_145 := ⟨rfl, rfl, rfl, rfl, rfl, rfl, rfl, rfl, rfl, rfl⟩
theorem bk169_0 : am_blk 169 0 = am_B169_0 := rfl
theorem bh169_8 : am_blk 169 8 = am_B169_8 := rfl
theorem bn169_8 : am_blk 169 (Int.toNat 8) = am_blk 169 8 := rfl
theorem bk169_34 : am_blk 169 (Int.toNat 34) = am_B169_34 := rfl
theorem bk169_68 : am_blk 169 (Int.toNat 68) = am_B169_68 := rfl
theorem bh169_84 : am_blk 169 84 = am_B169_84 := rfl
theorem bn169_84 : am_blk 169 (Int.toNat 84) = am_blk 169 84 := rfl
theorem bk169_115 : am_blk 169 (Int.toNat 115) = am_B169_115 := rfl
theorem bh169_131 : am_blk 169 131 = am_B169_131 := rfl
theorem bn169_131 : am_blk 169 (Int.toNat 131) = am_blk 169 131 := rfl
theorem bk169_191 : am_blk 169 (Int.toNat 191) = am_B169_191 := rfl
theorem bk169_206 : am_blk 169 (Int.toNat 206) = am_B169_206 := rfl
theorem bs169 : am_blk 169 0 = am_B169_0 ∧ am_blk 169 (Int.toNat 8) = am_blk 169 8 ∧ am_blk 169 (Int.toNat 34) = am_B169_34 ∧ am_blk 169 (Int.toNat 68) = am_B169_68 ∧ am_blk 169 (Int.toNat 84) = am_blk 169 84 ∧ am_blk 169 (Int.toNat 115) = am_B169_115 ∧ am_blk 169 (Int.toNat 131) = am_blk 169 131 ∧ am_blk 169 (Int.toNat 191) = am_B169_191 ∧ am_blk 169 (Int.toNat 206) = am_B169_206 := ⟨rfl, rfl, rfl, rfl, rfl, rfl, rfl, rfl, rfl⟩
theorem bk170_0 : am_blk 170 0 = am_B170_0 := rfl
theorem bk170_17 : am_blk 170 (Int.toNat 17) = am_B170_17 := rfl
theorem bk170_18 : am_blk 170 (Int.toNat 18) = am_B170_18 := rfl
theorem bs170 : am_blk 170 0 = am_B170_0 ∧ am_blk 170 (Int.toNat 17) = am_B170_17 ∧ am_blk 170 (Int.toNat 18) = am_B170_18 := ⟨rfl, rfl, rfl⟩
theorem bk171_0 : am_blk 171 0 = am_B171_0 := rfl
theorem bk171_23 : am_blk 171 (Int.toNat 23) = am_B171_23 := rfl
theorem bk171_24 : am_blk 171 (Int.toNat 24) = am_B171_24 := rfl
theorem bk171_83 : am_blk 171 (Int.toNat 83) = am_B171_83 := rfl
theorem bk171_118 : am_blk 171 (Int.toNat 118) = am_B171_118 := rfl
theorem bs171 : am_blk 171 0 = am_B171_0 ∧ am_blk 171 (Int.toNat 23) = am_B171_23 ∧ am_blk 171 (Int.toNat 24) = am_B171_24 ∧ am_blk 171 (Int.toNat 83) = am_B171_83 ∧ am_blk 171 (Int.toNat 118) = am_B171_118 := ⟨rfl, rfl, rfl, rfl, rfl⟩
theorem bk172_0 : am_blk 172 0 = am_B172_0 := rfl
theorem bh172_4 : am_blk 172 4 = am_B172_4 := rfl
theorem bn172_4 : am_blk 172 (Int.toNat 4) = am_blk 172 4 := rfl
theorem bk172_30 : am_blk 172 (Int.toNat 30) = am_B172_30 := rfl
theorem bk172_31 : am_blk 172 (Int.toNat 31) = am_B172_31 := rfl
theorem bk172_38 : am_blk 172 (Int.toNat 38) = am_B172_38 := rfl
theorem bs172 : am_blk 172 0 = am_B172_0 ∧ am_blk 172 (Int.toNat 4) = am_blk 172 4 ∧ am_blk 172 (Int.toNat 30) = am_B172_30 ∧ am_blk 172 (Int.toNat 31) = am_B172_31 ∧ am_blk 172 (Int.toNat 38) = am_B172_38 := ⟨rfl, rfl, rfl, rfl, rfl⟩
theorem bk173_0 : am_blk 173 0 = am_B173_0 := rfl
theorem bk173_28 : am_blk 173 (Int.toNat 28) = am_B173_28 := rfl
theorem bk173_29 : am_blk 173 (Int.toNat 29) = am_B173_29 := rfl
theorem bh173_32 : am_blk 173 32 = am_B173_32 := rfl
theorem bn173_32 : am_blk 173 (Int.toNat 32) = am_blk 173 32 := rfl
theorem bk173_67 : am_blk 173 (Int.toNat 67) = am_B173_67 := rfl
theorem bk173_68 : am_blk 173 (Int.toNat 68) = am_B173_68 := rfl
theorem bk173_75 : am_blk 173 (Int.toNat 75) = am_B173_75 := rfl
theorem bs173 : am_blk 173 0 = am_B173_0 ∧ am_blk 173 (Int.toNat 28) = am_B173_28 ∧ am_blk 173 (Int.toNat 29) = am_B173_29 ∧ am_blk 173 (Int.toNat 32) = am_blk 173 32 ∧ am_blk 173 (Int.toNat 67) = am_B173_67 ∧ am_blk 173 (Int.toNat 68) = am_B173_68 ∧ am_blk 173 (Int.toNat 75) = am_B173_75 := ⟨rfl, rfl, rfl, rfl, rfl, rfl, rfl⟩
theorem bk174_0 : am_blk 174 0 = am_B174_0 := rfl
theorem bk174_12 : am_blk 174 (Int.toNat 12) = am_B174_12 := rfl
theorem bk174_16 : am_blk 174 (Int.toNat 16) = am_B174_16 := rfl
theorem bk174_17 : am_blk 174 (Int.toNat 17) = am_B174_17 := rfl
theorem bk174_31 : am_blk 174 (Int.toNat 31) = am_B174_31 := rfl
theorem bs174 : am_blk 174 0 = am_B174_0 ∧ am_blk 174 (Int.toNat 12) = am_B174_12 ∧ am_blk 174 (Int.toNat 16) = am_B174_16 ∧ am_blk 174 (Int.toNat 17) = am_B174_17 ∧ am_blk 174 (Int.toNat 31) = am_B174_31 := ⟨rfl, rfl, rfl, rfl, rfl⟩
theorem bk175_0 : am_blk 175 0 = am_B175_0 := rfl
theorem bk175_15 : am_blk 175 (Int.toNat 15) = am_B175_15 := rfl
theorem bk175_17 : am_blk 175 (Int.toNat 17) = am_B175_17 := rfl
theorem bs175 : am_blk 175 0 = am_B175_0 ∧ am_blk 175 (Int.toNat 15) = am_B175_15 ∧ am_blk 175 (Int.toNat 17) = am_B175_17 := ⟨rfl, rfl, rfl⟩
theorem bk176_0 : am_blk 176 0 = am_B176_0 := rfl
theorem bk176_27 : am_blk 176 (Int.toNat 27) = am_B176_27 := rfl
theorem bk176_28 : am_blk 176 (Int.toNat 28) = am_B176_28 := rfl
theorem bs176 : am_blk 176 0 = am_B176_0 ∧ am_blk 176 (Int.toNat 27) = am_B176_27 ∧ am_blk 176 (Int.toNat 28) = am_B176_28 := ⟨rfl, rfl, rfl⟩
theorem bk177_0 : am_blk 177 0 = am_B177_0 := rfl
theorem bs177 : am_blk 177 0 = am_B177_0 := rfl
theorem bk178_0 : am_blk 178 0 = am_B178_0 := rfl
theorem bk178_41 : am_blk 178 (Int.toNat 41) = am_B178_41 := rfl
theorem bk178_61 : am_blk 178 (Int.toNat 61) = am_B178_61 := rfl
theorem bs178 : am_blk 178 0 = am_B178_0 ∧ am_blk 178 (Int.toNat 41) = am_B178_41 ∧ am_blk 178 (Int.toNat 61) = am_B178_61 := ⟨rfl, rfl, rfl⟩
theorem bk179_0 : am_blk 179 0 = am_B179_0 := rfl
theorem bk179_20 : am_blk 179 (Int.toNat 20) = am_B179_20 := rfl
theorem bk179_27 : am_blk 179 (Int.toNat 27) = am_B179_27 := rfl
theorem bs179 : am_blk 179 0 = am_B179_0 ∧ am_blk 179 (Int.toNat 20) = am_B179_20 ∧ am_blk 179 (Int.toNat 27) = am_B179_27 := ⟨rfl, rfl, rfl⟩
theorem bk180_0 : am_blk 180 0 = am_B180_0 := rfl
theorem bs180 : am_blk 180 0 = am_B180_0 := rfl
theorem bk181_0 : am_blk 181 0 = am_B181_0 := rfl
theorem bk181_20 : am_blk 181 (Int.toNat 20) = am_B181_20 := rfl
theorem bk181_27 : am_blk 181 (Int.toNat 27) = am_B181_27 := rfl
theorem bs181 : am_blk 181 0 = am_B181_0 ∧ am_blk 181 (Int.toNat 20) = am_B181_20 ∧ am_blk 181 (Int.toNat 27) = am_B181_27 := ⟨rfl, rfl, rfl⟩
theorem bk182_0 : am_blk 182 0 = am_B182_0 := rfl
theorem bs182 : am_blk 182 0 = am_B182_0 := rfl
theorem bk183_0 : am_blk 183 0 = am_B183_0 := rfl
theorem bk183_14 : am_blk 183 (Int.toNat 14) = am_B183_14 := rfl
theorem bk183_21 : am_blk 183 (Int.toNat 21) = am_B183_21 := rfl
theorem bk183_46 : am_blk 183 (Int.toNat 46) = am_B183_46 := rfl
theorem bk183_69 : am_blk 183 (Int.toNat 69) = am_B183_69 := rfl
theorem bs183 : am_blk 183 0 = am_B183_0 ∧ am_blk 183 (Int.toNat 14) = am_B183_14 ∧ am_blk 183 (Int.toNat 21) = am_B183_21 ∧ am_blk 183 (Int.toNat 46) = am_B183_46 ∧ am_blk 183 (Int.toNat 69) = am_B183_69 := ⟨rfl, rfl, rfl, rfl, rfl⟩
theorem bk184_0 : am_blk 184 0 = am_B184_0 := rfl
theorem bh184_4 : am_blk 184 4 = am_B184_4 := rfl
theorem bn184_4 : am_blk 184 (Int.toNat 4) = am_blk 184 4 := rfl
theorem bk184_24 : am_blk 184 (Int.toNat 24) = am_B184_24 := rfl
theorem bk184_36 : am_blk 184 (Int.toNat 36) = am_B184_36 := rfl
theorem bs184 : am_blk 184 0 = am_B184_0 ∧ am_blk 184 (Int.toNat 4) = am_blk 184 4 ∧ am_blk 184 (Int.toNat 24) = am_B184_24 ∧ am_blk 184 (Int.toNat 36) = am_B184_36 := ⟨rfl, rfl, rfl, rfl⟩
theorem bk185_0 : am_blk 185 0 = am_B185_0 := rfl
theorem bk185_14 : am_blk 185 (Int.toNat 14) = am_B185_14 := rfl
theorem bk185_21 : am_blk 185 (Int.toNat 21) = am_B185_21 := rfl
theorem bk185_41 : am_blk 185 (Int.toNat 41) = am_B185_41 := rfl
theorem bk185_58 : am_blk 185 (Int.toNat 58) = am_B185_58 := rfl
theorem bk185_65 : am_blk 185 (Int.toNat 65) = am_B185_65 := rfl
theorem bs185 : am_blk 185 0 = am_B185_0 ∧ am_blk 185 (Int.toNat 14) = am_B185_14 ∧ am_blk 185 (Int.toNat 21) = am_B185_21 ∧ am_blk 185 (Int.toNat 41) = am_B185_41 ∧ am_blk 185 (Int.toNat 58) = am_B185_58 ∧ am_blk 185 (Int.toNat 65) = am_B185_65 := ⟨rfl, rfl, rfl, rfl, rfl, rfl⟩
theorem bk186_0 : am_blk 186 0 = am_B186_0 := rfl
theorem bh186_2 : am_blk 186 2 = am_B186_2 := rfl
theorem bn186_2 : am_blk 186 (Int.toNat 2) = am_blk 186 2 := rfl
theorem bk186_19 : am_blk 186 (Int.toNat 19) = am_B186_19 := rfl
theorem bk186_27 : am_blk 186 (Int.toNat 27) = am_B186_27 := rfl
theorem bk186_28 : am_blk 186 (Int.toNat 28) = am_B186_28 := rfl
theorem bs186 : am_blk 186 0 = am_B186_0 ∧ am_blk 186 (Int.toNat 2) = am_blk 186 2 ∧ am_blk 186 (Int.toNat 19) = am_B186_19 ∧ am_blk 186 (Int.toNat 27) = am_B186_27 ∧ am_blk 186 (Int.toNat 28) = am_B186_28 := ⟨rfl, rfl, rfl, rfl, rfl⟩
theorem bk187_0 : am_blk 187 0 = am_B187_0 := rfl
theorem bk187_8 : am_blk 187 (Int.toNat 8) = am_B187_8 := rfl
theorem bk187_17 : am_blk 187 (Int.toNat 17) = am_B187_17 := rfl
theorem bk187_26 : am_blk 187 (Int.toNat 26) = am_B187_26 := rfl
theorem bk187_36 : am_blk 187 (Int.toNat 36) = am_B187_36 := rfl
theorem bk187_37 : am_blk 187 (Int.toNat 37) = am_B187_37 := rfl
theorem bs187 : am_blk 187 0 = am_B187_0 ∧ am_blk 187 (Int.toNat 8) = am_B187_8 ∧ am_blk 187 (Int.toNat 17) = am_B187_17 ∧ am_blk 187 (Int.toNat 26) = am_B187_26 ∧ am_blk 187 (Int.toNat 36) = am_B187_36 ∧ am_blk 187 (Int.toNat 37) = am_B187_37 := ⟨rfl, rfl, rfl, rfl, rfl, rfl⟩
theorem bk188_0 : am_blk 188 0 = am_B188_0 := rfl
theorem bk188_29 : am_blk 188 (Int.toNat 29) = am_B188_29 := rfl
theorem bk188_36 : am_blk 188 (Int.toNat 36) = am_B188_36 := rfl
theorem bk188_47 : am_blk 188 (Int.toNat 47) = am_B188_47 := rfl
theorem bk188_60 : am_blk 188 (Int.toNat 60) = am_B188_60 := rfl
theorem bs188 : am_blk 188 0 = am_B188_0 ∧ am_blk 188 (Int.toNat 29) = am_B188_29 ∧ am_blk 188 (Int.toNat 36) = am_B188_36 ∧ am_blk 188 (Int.toNat 47) = am_B188_47 ∧ am_blk 188 (Int.toNat 60) = am_B188_60 := ⟨rfl, rfl, rfl, rfl, rfl⟩
theorem bk189_0 : am_blk 189 0 = am_B189_0 := rfl
theorem bk189_14 : am_blk 189 (Int.toNat 14) = am_B189_14 := rfl
theorem bk189_15 : am_blk 189 (Int.toNat 15) = am_B189_15 := rfl
theorem bs189 : am_blk 189 0 = am_B189_0 ∧ am_blk 189 (Int.toNat 14) = am_B189_14 ∧ am_blk 189 (Int.toNat 15) = am_B189_15 := ⟨rfl, rfl, rfl⟩
theorem bk190_0 : am_blk 190 0 = am_B190_0 := rfl
theorem bk190_29 : am_blk 190 (Int.toNat 29) = am_B190_29 := rfl
theorem bk190_36 : am_blk 190 (Int.toNat 36) = am_B190_36 := rfl
theorem bk190_48 : am_blk 190 (Int.toNat 48) = am_B190_48 := rfl
theorem bk190_61 : am_blk 190 (Int.toNat 61) = am_B190_61 := rfl
theorem bk190_81 : am_blk 190 (Int.toNat 81) = am_B190_81 := rfl
theorem bk190_82 : am_blk 190 (Int.toNat 82) = am_B190_82 := rfl
theorem bh190_86 : am_blk 190 86 = am_B190_86 := rfl
theorem bn190_86 : am_blk 190 (Int.toNat 86) = am_blk 190 86 := rfl
theorem bk190_112 : am_blk 190 (Int.toNat 112) = am_B190_112 := rfl
theorem bs190 : am_blk 190 0 = am_B190_0 ∧ am_blk 190 (Int.toNat 29) = am_B190_29 ∧ am_blk 190 (Int.toNat 36) = am_B190_36 ∧ am_blk 190 (Int.toNat 48) = am_B190_48 ∧ am_blk 190 (Int.toNat 61) = am_B190_61 ∧ am_blk 190 (Int.toNat 81) = am_B190_81 ∧ am_blk 190 (Int.toNat 82) = am_B190_82 ∧ am_blk 190 (Int.toNat 86) = am_blk 190 86 ∧ am_blk 190 (Int.toNat 112) = am_B190_112 := ⟨rfl, rfl, rfl, rfl, rfl, rfl, rfl, rfl, rfl⟩
theorem bk191_0 : am_blk 191 0 = am_B191_0 := rfl
theorem bk191_14 : am_blk 191 (Int.toNat 14) = am_B191_14 := rfl
theorem bk191_33 : am_blk 191 (Int.toNat 33) = am_B191_33 := rfl
theorem bk191_54 : am_blk 191 (Int.toNat 54) = am_B191_54 := rfl
theorem bs191 : am_blk 191 0 = am_B191_0 ∧ am_blk 191 (Int.toNat 14) = am_B191_14 ∧ am_blk 191 (Int.toNat 33) = am_B191_33 ∧ am_blk 191 (Int.toNat 54) = am_B191_54 := ⟨rfl, rfl, rfl, rfl⟩
theorem bk192_0 : am_blk 192 0 = am_B192_0 := rfl
theorem bk192_30 : am_blk 192 (Int.toNat 30) = am_B192_30 := rfl
theorem bk192_31 : am_blk 192 (Int.toNat 31) = am_B192_31 := rfl
theorem bs192 : am_blk 192 0 = am_B192_0 ∧ am_blk 192 (Int.toNat 30) = am_B192_30 ∧ am_blk 192 (Int.toNat 31) = am_B192_31 := ⟨rfl, rfl, rfl⟩
theorem bk193_0 : am_blk 193 0 = am_B193_0 := rfl
theorem bk193_20 : am_blk 193 (Int.toNat 20) = am_B193_20 := rfl
theorem bk193_40 : am_blk 193 (Int.toNat 40) = am_B193_40 := rfl
theorem bk193_47 : am_blk 193 (Int.toNat 47) = am_B193_47 := rfl
theorem bs193 : am_blk 193 0 = am_B193_0 ∧ am_blk 193 (Int.toNat 20) = am_B193_20 ∧ am_blk 193 (Int.toNat 40) = am_B193_40 ∧ am_blk 193 (Int.toNat 47) = am_B193_47 := ⟨rfl, rfl, rfl, rfl⟩
theorem bk194_0 : am_blk 194 0 = am_B194_0 := rfl
theorem bk194_14 : am_blk 194 (Int.toNat 14) = am_B194_14 := rfl
theorem bk194_30 : am_blk 194 (Int.toNat 30) = am_B194_30 := rfl
theorem bk194_53 : am_blk 194 (Int.toNat 53) = am_B194_53 := rfl
theorem bs194 : am_blk 194 0 = am_B194_0 ∧ am_blk 194 (Int.toNat 14) = am_B194_14 ∧ am_blk 194 (Int.toNat 30) = am_B194_30 ∧ am_blk 194 (Int.toNat 53) = am_B194_53 := ⟨rfl, rfl, rfl, rfl⟩
theorem bk195_0 : am_blk 195 0 = am_B195_0 := rfl
theorem bk195_11 : am_blk 195 (Int.toNat 11) = am_B195_11 := rfl
theorem bk195_22 : am_blk 195 (Int.toNat 22) = am_B195_22 := rfl
theorem bk195_23 : am_blk 195 (Int.toNat 23) = am_B195_23 := rfl
theorem bs195 : am_blk 195 0 = am_B195_0 ∧ am_blk 195 (Int.toNat 11) = am_B195_11 ∧ am_blk 195 (Int.toNat 22) = am_B195_22 ∧ am_blk 195 (Int.toNat 23) = am_B195_23 := ⟨rfl, rfl, rfl, rfl⟩
theorem bk196_0 : am_blk 196 0 = am_B196_0 := rfl
theorem bk196_14 : am_blk 196 (Int.toNat 14) = am_B196_14 := rfl
theorem bk196_21 : am_blk 196 (Int.toNat 21) = am_B196_21 := rfl
theorem bk196_53 : am_blk 196 (Int.toNat 53) = am_B196_53 := rfl
theorem bk196_60 : am_blk 196 (Int.toNat 60) = am_B196_60 := rfl
theorem bk196_80 : am_blk 196 (Int.toNat 80) = am_B196_80 := rfl
theorem bk196_103 : am_blk 196 (Int.toNat 103) = am_B196_103 := rfl
theorem bk196_110 : am_blk 196 (Int.toNat 110) = am_B196_110 := rfl
theorem bs196 : am_blk 196 0 = am_B196_0 ∧ am_blk 196 (Int.toNat 14) = am_B196_14 ∧ am_blk 196 (Int.toNat 21) = am_B196_21 ∧ am_blk 196 (Int.toNat 53) = am_B196_53 ∧ am_blk 196 (Int.toNat 60) = am_B196_60 ∧ am_blk 196 (Int.toNat 80) = am_B196_80 ∧ am_blk 196 (Int.toNat 103) = am_B196_103 ∧ am_blk 196 (Int.toNat 110) = am_B196_110 := ⟨rfl, rfl, rfl, rfl, rfl, rfl, rfl, rfl⟩
theorem bk197_0 : am_blk 197 0 = am_B197_0 := rfl
theorem bk197_14 : am_blk 197 (Int.toNat 14) = am_B197_14 := rfl
theorem bk197_21 : am_blk 197 (Int.toNat 21) = am_B197_21 := rfl
theorem bk197_39 : am_blk 197 (Int.toNat 39) = am_B197_39 := rfl
theorem bk197_46 : am_blk 197 (Int.toNat 46) = am_B197_46 := rfl
theorem bk197_69 : am_blk 197 (Int.toNat 69) = am_B197_69 := rfl
theorem bk197_118 : am_blk 197 (Int.toNat 118) = am_B197_118 := rfl
theorem bk197_125 : am_blk 197 (Int.toNat 125) = am_B197_125 := rfl
theorem bh197_128 : am_blk 197 128 = am_B197_128 := rfl
theorem bn197_128 : am_blk 197 (Int.toNat 128) = am_blk 197 128 := rfl
theorem bk197_162 : am_blk 197 (Int.toNat 162) = am_B197_162 := rfl
theorem bh197_165 : am_blk 197 165 = am_B197_165 := rfl
theorem bn197_165 : am_blk 197 (Int.toNat 165) = am_blk 197 165 := rfl
theorem bk197_200 : am_blk 197 (Int.toNat 200) = am_B197_200 := rfl
theorem bs197 : am_blk 197 0 = am_B197_0 ∧ am_blk 197 (Int.toNat 14) = am_B197_14 ∧ am_blk 197 (Int.toNat 21) = am_B197_21 ∧ am_blk 197 (Int.toNat 39) = am_B197_39 ∧ am_blk 197 (Int.toNat 46) = am_B197_46 ∧ am_blk 197 (Int.toNat 69) = am_B197_69 ∧ am_blk 197 (Int.toNat 118) = am_B197_118 ∧ am_blk 197 (Int.toNat 125) = am_B197_125 ∧ am_blk 197 (Int.toNat 128) = am_blk 197 128 ∧ am_blk 197 (Int.toNat 162) = am_B197_162 ∧ am_blk 197 (Int.toNat 165) = am_blk 197 165 ∧ am_blk 197 (Int.toNat 200) = am_B197_200 := ⟨rfl, rfl, rfl, rfl, rfl, rfl, rfl, rfl, rfl, rfl, rfl, rfl⟩
theorem bk198_0 : am_blk 198 0 = am_B198_0 := rfl
theorem bk198_14 : am_blk 198 (Int.toNat 14) = am_B198_14 := rfl
theorem bk198_35 : am_blk 198 (Int.toNat 35) = am_B198_35 := rfl
theorem bh198_37 : am_blk 198 37 = am_B198_37 := rfl
theorem bn198_37 : am_blk 198 (Int.toNat 37) = am_blk 198 37 := rfl
theorem bk198_89 : am_blk 198 (Int.toNat 89) = am_B198_89 := rfl
theorem bs198 : am_blk 198 0 = am_B198_0 ∧ am_blk 198 (Int.toNat 14) = am_B198_14 ∧ am_blk 198 (Int.toNat 35) = am_B198_35 ∧ am_blk 198 (Int.toNat 37) = am_blk 198 37 ∧ am_blk 198 (Int.toNat 89) = am_B198_89 := ⟨rfl, rfl, rfl, rfl, rfl⟩
theorem bk199_0 : am_blk 199 0 = am_B199_0 := rfl
theorem bk199_18 : am_blk 199 (Int.toNat 18) = am_B199_18 := rfl
theorem bh199_20 : am_blk 199 20 = am_B199_20 := rfl
theorem bn199_20 : am_blk 199 (Int.toNat 20) = am_blk 199 20 := rfl
theorem bk199_80 : am_blk 199 (Int.toNat 80) = am_B199_80 := rfl
theorem bs199 : am_blk 199 0 = am_B199_0 ∧ am_blk 199 (Int.toNat 18) = am_B199_18 ∧ am_blk 199 (Int.toNat 20) = am_blk 199 20 ∧ am_blk 199 (Int.toNat 80) = am_B199_80 := ⟨rfl, rfl, rfl, rfl⟩
theorem bk200_0 : am_blk 200 0 = am_B200_0 := rfl
theorem bk200_14 : am_blk 200 (Int.toNat 14) = am_B200_14 := rfl
theorem bk200_35 : am_blk 200 (Int.toNat 35) = am_B200_35 := rfl
theorem bh200_44 : am_blk 200 44 = am_B200_44 := rfl
theorem bn200_44 : am_blk 200 (Int.toNat 44) = am_blk 200 44 := rfl
theorem bk200_78 : am_blk 200 (Int.toNat 78) = am_B200_78 := rfl
theorem bk200_82 : am_blk 200 (Int.toNat 82) = am_B200_82 := rfl
theorem bk200_88 : am_blk 200 (Int.toNat 88) = am_B200_88 := rfl
theorem bs200 : am_blk 200 0 = am_B200_0 ∧ am_blk 200 (Int.toNat 14) = am_B200_14 ∧ am_blk 200 (Int.toNat 35) = am_B200_35 ∧ am_blk 200 (Int.toNat 44) = am_blk 200 44 ∧ am_blk 200 (Int.toNat 78) = am_B200_78 ∧ am_blk 200 (Int.toNat 82) = am_B200_82 ∧ am_blk 200 (Int.toNat 88) = am_B200_88 := ⟨rfl, rfl, rfl, rfl, rfl, rfl, rfl⟩
theorem bk201_0 : am_blk 201 0 = am_B201_0 := rfl
theorem bk201_18 : am_blk 201 (Int.toNat 18) = am_B201_18 := rfl
theorem bh201_24 : am_blk 201 24 = am_B201_24 := rfl
theorem bn201_24 : am_blk 201 (Int.toNat 24) = am_blk 201 24 := rfl
theorem bk201_68 : am_blk 201 (Int.toNat 68) = am_B201_68 := rfl
theorem bk201_82 : am_blk 201 (Int.toNat 82) = am_B201_82 := rfl
theorem bk201_85 : am_blk 201 (Int.toNat 85) = am_B201_85 := rfl
theorem bs201 : am_blk 201 0 = am_B201_0 ∧ am_blk 201 (Int.toNat 18) = am_B201_18 ∧ am_blk 201 (Int.toNat 24) = am_blk 201 24 ∧ am_blk 201 (Int.toNat 68) = am_B201_68 ∧ am_blk 201 (Int.toNat 82) = am_B201_82 ∧ am_blk 201 (Int.toNat 85) = am_B201_85 := ⟨rfl, rfl, rfl, rfl, rfl, rfl⟩
theorem bk202_0 : am_blk 202 0 = am_B202_0 := rfl
theorem bs202 : am_blk 202 0 = am_B202_0 := rfl
theorem bk203_0 : am_blk 203 0 = am_B203_0 := rfl
theorem bs203 : am_blk 203 0 = am_B203_0 := rfl
theorem bk204_0 : am_blk 204 0 = am_B204_0 := rfl
theorem bk204_14 : am_blk 204 (Int.toNat 14) = am_B204_14 := rfl
theorem bs204 : am_blk 204 0 = am_B204_0 ∧ am_blk 204 (Int.toNat 14) = am_B204_14 := ⟨rfl, rfl⟩
theorem bk205_0 : am_blk 205 0 = am_B205_0 := rfl
theorem bk205_14 : am_blk 205 (Int.toNat 14) = am_B205_14 := rfl
theorem bs205 : am_blk 205 0 = am_B205_0 ∧ am_blk 205 (Int.toNat 14) = am_B205_14 := ⟨rfl, rfl⟩
theorem bk206_0 : am_blk 206 0 = am_B206_0 := rfl
theorem bk206_11 : am_blk 206 (Int.toNat 11) = am_B206_11 := rfl
theorem bk206_12 : am_blk 206 (Int.toNat 12) = am_B206_12 := rfl
theorem bs206 : am_blk 206 0 = am_B206_0 ∧ am_blk 206 (Int.toNat 11) = am_B206_11 ∧ am_blk 206 (Int.toNat 12) = am_B206_12 := ⟨rfl, rfl, rfl⟩
theorem bk207_0 : am_blk 207 0 = am_B207_0 := rfl
theorem bk207_11 : am_blk 207 (Int.toNat 11) = am_B207_11 := rfl
theorem bk207_12 : am_blk 207 (Int.toNat 12) = am_B207_12 := rfl
theorem bs207 : am_blk 207 0 = am_B207_0 ∧ am_blk 207 (Int.toNat 11) = am_B207_11 ∧ am_blk 207 (Int.toNat 12) = am_B207_12 := ⟨rfl, rfl, rfl⟩
theorem bk208_0 : am_blk 208 0 = am_B208_0 := rfl
theorem bk208_56 : am_blk 208 (Int.toNat 56) = am_B208_56 := rfl
theorem bk208_64 : am_blk 208 (Int.toNat 64) = am_B208_64 := rfl
theorem bk208_72 : am_blk 208 (Int.toNat 72) = am_B208_72 := rfl
theorem bk208_83 : am_blk 208 (Int.toNat 83) = am_B208_83 := rfl
theorem bk208_94 : am_blk 208 (Int.toNat 94) = am_B208_94 := rfl
theorem bk208_102 : am_blk 208 (Int.toNat 102) = am_B208_102 := rfl
theorem bk208_113 : am_blk 208 (Int.toNat 113) = am_B208_113 := rfl
theorem bk208_121 : am_blk 208 (Int.toNat 121) = am_B208_121 := rfl
theorem bk208_129 : am_blk 208 (Int.toNat 129) = am_B208_129 := rfl
theorem bs208 : am_blk 208 0 = am_B208_0 ∧ am_blk 208 (Int.toNat 56) = am_B208_56 ∧ am_blk 208 (Int.toNat 64) = am_B208_64 ∧ am_blk 208 (Int.toNat 72) = am_B208_72 ∧ am_blk 208 (Int.toNat 83) = am_B208_83 ∧ am_blk 208 (Int.toNat 94) = am_B208_94 ∧ am_blk 208 (Int.toNat 102) = am_B208_102 ∧ am_blk 208 (Int.toNat 113) = am_B208_113 ∧ am_blk 208 (Int.toNat 121) = am_B208_121 ∧ am_blk 208 (Int.toNat 129) = am_B208_129 := ⟨rfl, rfl, rfl, rfl, rfl, rfl, rfl, rfl, rfl, rfl⟩
theorem bk209_0 : am_blk 209 0 = am_B209_0 := rfl
theorem bh209_4 : am_blk 209 4 = am_B209_4 := rfl
theorem bn209_4 : am_blk 209 (Int.toNat 4) = am_blk 209 4 := rfl
theorem bk209_25 : am_blk 209 (Int.toNat 25) = am_B209_25 := rfl
theorem bk209_26 : am_blk 209 (Int.toNat 26) = am_B209_26 := rfl
theorem bk209_34 : am_blk 209 (Int.toNat 34) = am_B209_34 := rfl
theorem bs209 : am_blk 209 0 = am_B209_0 ∧ am_blk 209 (Int.toNat 4) = am_blk 209 4 ∧ am_blk 209 (Int.toNat 25) = am_B209_25 ∧ am_blk 209 (Int.toNat 26) = am_B209_26 ∧ am_blk 209 (Int.toNat 34) = am_B209_34 := ⟨rfl, rfl, rfl, rfl, rfl⟩
theorem bk210_0 : am_blk 210 0 = am_B210_0 := rfl
theorem bk210_48 : am_blk 210 (Int.toNat 48) = am_B210_48 := rfl
theorem bk210_55 : am_blk 210 (Int.toNat 55) = am_B210_55 := rfl
theorem bk210_62 : am_blk 210 (Int.toNat 62) = am_B210_62 := rfl
theorem bk210_70 : am_blk 210 (Int.toNat 70) = am_B210_70 := rfl
theorem bk210_78 : am_blk 210 (Int.toNat 78) = am_B210_78 := rfl
theorem bk210_83 : am_blk 210 (Int.toNat 83) = am_B210_83 := rfl
theorem bk210_88 : am_blk 210 (Int.toNat 88) = am_B210_88 := rfl
theorem bk210_95 : am_blk 210 (Int.toNat 95) = am_B210_95 := rfl
theorem bh210_97 : am_blk 210 97 = am_B210_97 := rfl
theorem bn210_97 : am_blk 210 (Int.toNat 97) = am_blk 210 97 := rfl
theorem bk210_119 : am_blk 210 (Int.toNat 119) = am_B210_119 := rfl
theorem bk210_120 : am_blk 210 (Int.toNat 120) = am_B210_120 := rfl
theorem bk210_128 : am_blk 210 (Int.toNat 128) = am_B210_128 := rfl
theorem bk210_130 : am_blk 210 (Int.toNat 130) = am_B210_130 := rfl
theorem bs210 : am_blk 210 0 = am_B210_0 ∧ am_blk 210 (Int.toNat 48) = am_B210_48 ∧ am_blk 210 (Int.toNat 55) = am_B210_55 ∧ am_blk 210 (Int.toNat 62) = am_B210_62 ∧ am_blk 210 (Int.toNat 70) = am_B210_70 ∧ am_blk 210 (Int.toNat 78) = am_B210_78 ∧ am_blk 210 (Int.toNat 83) = am_B210_83 ∧ am_blk 210 (Int.toNat 88) = am_B210_88 ∧ am_blk 210 (Int.toNat 95) = am_B210_95 ∧ am_blk 210 (Int.toNat 97) = am_blk 210 97 ∧ am_blk 210 (Int.toNat 119) = am_B210_119 ∧ am_blk 210 (Int.toNat 120) = am_B210_120 ∧ am_blk 210 (Int.toNat 128) = am_B210_128 ∧ am_blk 210 (Int.toNat 130) = am_B210_130 := ⟨rfl, rfl, rfl, rfl, rfl, rfl, rfl, rfl, rfl, rfl, rfl, rfl, rfl, rfl⟩
theorem bk211_0 : am_blk 211 0 = am_B211_0 := rfl
theorem bk211_17 : am_blk 211 (Int.toNat 17) = am_B211_17 := rfl
theorem bk211_28 : am_blk 211 (Int.toNat 28) = am_B211_28 := rfl
theorem bh211_32 : am_blk 211 32 = am_B211_32 := rfl
theorem bn211_32 : am_blk 211 (Int.toNat 32) = am_blk 211 32 := rfl
theorem bk211_53 : am_blk 211 (Int.toNat 53) = am_B211_53 := rfl
theorem bs211 : am_blk 211 0 = am_B211_0 ∧ am_blk 211 (Int.toNat 17) = am_B211_17 ∧ am_blk 211 (Int.toNat 28) = am_B211_28 ∧ am_blk 211 (Int.toNat 32) = am_blk 211 32 ∧ am_blk 211 (Int.toNat 53) = am_B211_53 := ⟨rfl, rfl, rfl, rfl, rfl⟩
theorem bk212_0 : am_blk 212 0 = am_B212_0 := rfl
theorem bk212_21 : am_blk 212 (Int.toNat 21) = am_B212_21 := rfl
theorem bk212_27 : am_blk 212 (Int.toNat 27) = am_B212_27 := rfl
theorem bs212 : am_blk 212 0 = am_B212_0 ∧ am_blk 212 (Int.toNat 21) = am_B212_21 ∧ am_blk 212 (Int.toNat 27) = am_B212_27 := ⟨rfl, rfl, rfl⟩
theorem bh213_18 : am_blk 213 18 = am_B213_18 := rfl
theorem bn213_18 : am_blk 213 (Int.toNat 18) = am_blk 213 18 := rfl
theorem bk213_220 : am_blk 213 (Int.toNat 220) = am_B213_220 := rfl
theorem bk213_253 : am_blk 213 (Int.toNat 253) = am_B213_253 := rfl
theorem bk213_286 : am_blk 213 (Int.toNat 286) = am_B213_286 := rfl
theorem bk213_319 : am_blk 213 (Int.toNat 319) = am_B213_319 := rfl
theorem bk213_352 : am_blk 213 (Int.toNat 352) = am_B213_352 := rfl
theorem bk213_395 : am_blk 213 (Int.toNat 395) = am_B213_395 := rfl
theorem bk213_428 : am_blk 213 (Int.toNat 428) = am_B213_428 := rfl
theorem bk213_461 : am_blk 213 (Int.toNat 461) = am_B213_461 := rfl
theorem bk213_484 : am_blk 213 (Int.toNat 484) = am_B213_484 := rfl
theorem bk213_507 : am_blk 213 (Int.toNat 507) = am_B213_507 := rfl
theorem bk213_540 : am_blk 213 (Int.toNat 540) = am_B213_540 := rfl
theorem bk213_573 : am_blk 213 (Int.toNat 573) = am_B213_573 := rfl
theorem bk213_586 : am_blk 213 (Int.toNat 586) = am_B213_586 := rfl
theorem bk213_599 : am_blk 213 (Int.toNat 599) = am_B213_599 := rfl
theorem bk213_632 : am_blk 213 (Int.toNat 632) = am_B213_632 := rfl
theorem bk213_675 : am_blk 213 (Int.toNat 675) = am_B213_675 := rfl
theorem bk213_708 : am_blk 213 (Int.toNat 708) = am_B213_708 := rfl
theorem bk213_741 : am_blk 213 (Int.toNat 741) = am_B213_741 := rfl
theorem bk213_774 : am_blk 213 (Int.toNat 774) = am_B213_774 := rfl
theorem bk213_807 : am_blk 213 (Int.toNat 807) = am_B213_807 := rfl
theorem bk213_840 : am_blk 213 (Int.toNat 840) = am_B213_840 := rfl
theorem bk213_873 : am_blk 213 (Int.toNat 873) = am_B213_873 := rfl
theorem bk213_886 : am_blk 213 (Int.toNat 886) = am_B213_886 := rfl
theorem bk213_909 : am_blk 213 (Int.toNat 909) = am_B213_909 := rfl
theorem bk213_942 : am_blk 213 (Int.toNat 942) = am_B213_942 := rfl
theorem bk213_975 : am_blk 213 (Int.toNat 975) = am_B213_975 := rfl
theorem bk213_998 : am_blk 213 (Int.toNat 998) = am_B213_998 := rfl
theorem bk213_1032 : am_blk 213 (Int.toNat 1032) = am_B213_1032 := rfl
theorem bk213_1055 : am_blk 213 (Int.toNat 1055) = am_B213_1055 := rfl
theorem bk213_1088 : am_blk 213 (Int.toNat 1088) = am_B213_1088 := rfl
theorem bk213_1101 : am_blk 213 (Int.toNat 1101) = am_B213_1101 := rfl
theorem bk213_1114 : am_blk 213 (Int.toNat 1114) = am_B213_1114 := rfl
theorem bk213_1147 : am_blk 213 (Int.toNat 1147) = am_B213_1147 := rfl
theorem bk213_1180 : am_blk 213 (Int.toNat 1180) = am_B213_1180 := rfl
theorem bk213_1223 : am_blk 213 (Int.toNat 1223) = am_B213_1223 := rfl
theorem bk213_1266 : am_blk 213 (Int.toNat 1266) = am_B213_1266 := rfl
theorem bk213_1329 : am_blk 213 (Int.toNat 1329) = am_B213_1329 := rfl
theorem bk213_1352 : am_blk 213 (Int.toNat 1352) = am_B213_1352 := rfl
theorem bk213_1375 : am_blk 213 (Int.toNat 1375) = am_B213_1375 := rfl
theorem bk213_1388 : am_blk 213 (Int.toNat 1388) = am_B213_1388 := rfl
theorem bk213_1401 : am_blk 213 (Int.toNat 1401) = am_B213_1401 := rfl
theorem bk213_1414 : am_blk 213 (Int.toNat 1414) = am_B213_1414 := rfl
theorem bk213_1437 : am_blk 213 (Int.toNat 1437) = am_B213_1437 := rfl
theorem bk213_1460 : am_blk 213 (Int.toNat 1460) = am_B213_1460 := rfl
theorem bk213_1466 : am_blk 213 (Int.toNat 1466) = am_B213_1466 := rfl
theorem bs213 : am_blk 213 (Int.toNat 18) = am_blk 213 18 ∧ am_blk 213 (Int.toNat 220) = am_B213_220 ∧ am_blk 213 (Int.toNat 253) = am_B213_253 ∧ am_blk 213 (Int.toNat 286) = am_B213_286 ∧ am_blk 213 (Int.toNat 319) = am_B213_319 ∧ am_blk 213 (Int.toNat 352) = am_B213_352 ∧ am_blk 213 (Int.toNat 395) = am_B213_395 ∧ am_blk 213 (Int.toNat 428) = am_B213_428 ∧ am_blk 213 (Int.toNat 461) = am_B213_461 ∧ am_blk 213 (Int.toNat 484) = am_B213_484 ∧ am_blk 213 (Int.toNat 507) = am_B213_507 ∧ am_blk 213 (Int.toNat 540) = am_B213_540 ∧ am_blk 213 (Int.toNat 573) = am_B213_573 ∧ am_blk 213 (Int.toNat 586) = am_B213_586 ∧ am_blk 213 (Int.toNat 599) = am_B213_599 ∧ am_blk 213 (Int.toNat 632) = am_B213_632 ∧ am_blk 213 (Int.toNat 675) = am_B213_675 ∧ am_blk 213 (Int.toNat 708) = am_B213_708 ∧ am_blk 213 (Int.toNat 741) = am_B213_741 ∧ am_blk 213 (Int.toNat 774) = am_B213_774 ∧ am_blk 213 (Int.toNat 807) = am_B213_807 ∧ am_blk 213 (Int.toNat 840) = am_B213_840 ∧ am_blk 213 (Int.toNat 873) = am_B213_873 ∧ am_blk 213 (Int.toNat 886) = am_B213_886 ∧ am_blk 213 (Int.toNat 909) = am_B213_909 ∧ am_blk 213 (Int.toNat 942) = am_B213_942 ∧ am_blk 213 (Int.toNat 975) = am_B213_975 ∧ am_blk 213 (Int.toNat 998) = am_B213_998 ∧ am_blk 213 (Int.toNat 1032) = am_B213_1032 ∧ am_blk 213 (Int.toNat 1055) = am_B213_1055 ∧ am_blk 213 (Int.toNat 1088) = am_B213_1088 ∧ am_blk 213 (Int.toNat 1101) = am_B213_1101 ∧ am_blk 213 (Int.toNat 1114) = am_B213_1114 ∧ am_blk 213 (Int.toNat 1147) = am_B213_1147 ∧ am_blk 213 (Int.toNat 1180) = am_B213_1180 ∧ am_blk 213 (Int.toNat 1223) = am_B213_1223 ∧ am_blk 213 (Int.toNat 1266) = am_B213_1266 ∧ am_blk 213 (Int.toNat 1329) = am_B213_1329 ∧ am_blk 213 (Int.toNat 1352) = am_B213_1352 ∧ am_blk 213 (Int.toNat 1375) = am_B213_1375 ∧ am_blk 213 (Int.toNat 1388) = am_B213_1388 ∧ am_blk 213 (Int.toNat 1401) = am_B213_1401 ∧ am_blk 213 (Int.toNat 1414) = am_B213_1414 ∧ am_blk 213 (Int.toNat 1437) = am_B213_1437 ∧ am_blk 213 (Int.toNat 1460) = am_B213_1460 ∧ am_blk 213 (Int.toNat 1466) = am_B213_1466 := ⟨rfl, rfl, rfl, rfl, rfl, rfl, rfl, rfl, rfl, rfl, rfl, rfl, rfl, rfl, rfl, rfl, rfl, rfl, rfl, rfl, rfl, rfl, rfl, rfl, rfl, rfl, rfl, rfl, rfl, rfl, rfl, rfl, rfl, rfl, rfl, rfl, rfl, rfl, rfl, rfl, rfl, rfl, rfl, rfl, rfl, rfl⟩
end
section
/-! ===== small words: truth as a number, ranges, fills, counts ===== -/
def bI (b : Bool) : Int32 := if b = true then nI 1 else nI 0
theorem bI_t : bI true = nI 1 := rfl
theorem bI_f : bI false = nI 0 := rfl
theorem bI_eq0 (b : Bool) : (bI b = nI 0) = (b = false) := by cases b <;> simp [bI] <;> decide
theorem bI_01 (b : Bool) : bI b = nI 0 ∨ bI b = nI 1 := by cases b <;> simp [bI]
def inR (v lo hi : Int32) : Bool := decide (¬ v < lo ∧ ¬ hi < v)
theorem inR_nI {j a b : Nat} (hj : j < 2 ^ 31) (ha : a < 2 ^ 31) (hb : b < 2 ^ 31) : inR (nI j) (nI a) (nI b) = decide (a ≤ j ∧ j ≤ b) := by
  unfold inR
  refine decide_eq_decide.mpr ?_
  rw [am_nI_lt hj ha, am_nI_lt hb hj]
  omega
theorem inR_of {v : Int32} {n : Nat} (hn : n < 2 ^ 31) (h : inR v (nI 0) (nI n) = true) : ∃ j : Nat, j ≤ n ∧ v = nI j := by
  unfold inR at h
  have h := of_decide_eq_true h
  obtain ⟨j, hj, e⟩ := nI_of (x := v) h.1
  refine ⟨j, ?_, e⟩
  have h2 := h.2
  rw [e] at h2
  exact Nat.not_lt.mp fun q => h2 ((nI_ltI hn hj).mpr q)
theorem am_rcv_of {m o : Nat} {as : List Value} (h1 : as.all am_c1 = true) (h2 : am_clsof o = am_own m) : am_rcv m (.ref o :: as) = true := by
  unfold am_rcv
  simp [h1, h2, am_c1]
section JOIN
variable {X : AmX} {k : Nat} {ops : List Instr} {lv : LV} {st : List Value} {G : GG} {Q : Option Value → GG → Prop}
theorem WP_join {P : Prop} [Decidable P] {a b : Int32} : ((P → WP X k ops lv (.int a :: st) G Q) ∧ (¬ P → WP X k ops lv (.int b :: st) G Q)) ↔ WP X k ops lv (.int (if P then a else b) :: st) G Q := by
  by_cases h : P <;> simp [h]
theorem WP_joinB {P : Prop} [Decidable P] : ((P → WP X k ops lv (.int (nI 1) :: st) G Q) ∧ (¬ P → WP X k ops lv (.int (nI 0) :: st) G Q)) ↔ WP X k ops lv (.int (bI (decide P)) :: st) G Q := by
  by_cases h : P <;> simp [h, bI]
theorem WP_joinN {P : Prop} [Decidable P] : ((P → WP X k ops lv (.int (nI 0) :: st) G Q) ∧ (¬ P → WP X k ops lv (.int (nI 1) :: st) G Q)) ↔ WP X k ops lv (.int (bI (decide (¬ P))) :: st) G Q := by
  by_cases h : P <;> simp [h, bI]
theorem wp_ret1b {r : List Instr} {b : Bool} : WP X k (.ret 1 :: r) lv [.int (bI b)] G Q ↔ Q (some (.int (bI b))) G := wp_ret1 (bI_01 b)
end JOIN
/-- the first i numbers are v -/
def flt (i : Nat) (v : Int32) (f : Nat → Int32) : Nat → Int32 := fun j => if j < i then v else f j
theorem flt_0 (v : Int32) (f : Nat → Int32) : flt 0 v f = f := by funext j; simp [flt]
theorem flt_s (i : Nat) (v : Int32) (f : Nat → Int32) : upd (flt i v f) i v = flt (i + 1) v f := by
  funext j
  unfold upd flt
  by_cases h : j = i
  · subst h; simp
  · by_cases h2 : j < i
    · simp [h, h2, show j < i + 1 by omega]
    · simp [h, h2, show ¬ j < i + 1 by omega]
/-- how many of the first n are v -/
def cnt (f : Nat → Int32) (v : Int32) : Nat → Nat
  | 0 => 0
  | n + 1 => cnt f v n + if f n = v then 1 else 0
theorem cnt_le (f : Nat → Int32) (v : Int32) : ∀ n, cnt f v n ≤ n
  | 0 => Nat.le_refl 0
  | n + 1 => by have := cnt_le f v n; unfold cnt; split <;> omega
theorem cnt_pos {f : Nat → Int32} {v : Int32} {i : Nat} (h : f i = v) : ∀ n, i < n → 1 ≤ cnt f v n
  | 0, hi => absurd hi (Nat.not_lt_zero i)
  | n + 1, hi => by
    unfold cnt
    by_cases e : i = n
    · subst e; rw [if_pos h]; omega
    · have := cnt_pos h n (by omega); omega
theorem cnt_congr {f g : Nat → Int32} {v : Int32} : ∀ n, (∀ j, j < n → f j = g j) → cnt f v n = cnt g v n
  | 0, _ => rfl
  | n + 1, h => by
    unfold cnt
    rw [cnt_congr n (fun j hj => h j (by omega)), h n (by omega)]
end
section
/-! ===== leaves: contracts of the methods that call nothing, or little ===== -/
def nM : Int32 := Int32.ofInt (-1)
def fc (f : Nat) : Int32 := Int32.ofInt (-1000001 - (f : Int))
theorem fcs : am_ci (-1000001) = fc 0 ∧ am_ci (-1000002) = fc 1 ∧ am_ci (-1000003) = fc 2 ∧ am_ci (-1000004) = fc 3 ∧ am_ci (-1000005) = fc 4 ∧ am_ci (-1000006) = fc 5 ∧ am_ci (-1000007) = fc 6 ∧ am_ci (-1) = nM := ⟨rfl, rfl, rfl, rfl, rfl, rfl, rfl, rfl⟩
theorem fc_sub {f : Nat} (h : f < 7) : fc 0 - fc f = nI f := by
  rcases (by omega : f = 0 ∨ f = 1 ∨ f = 2 ∨ f = 3 ∨ f = 4 ∨ f = 5 ∨ f = 6) with rfl | rfl | rfl | rfl | rfl | rfl | rfl <;> decide
theorem nM_lt {j : Nat} (h : j < 2 ^ 31) : (nM < nI j) = True := by
  have e : nM.toInt = -1 := by decide
  rw [Int32.lt_iff_toInt_lt, e, nI_toInt h]
  exact eq_true (by omega)
theorem nM_gt {j : Nat} (h : j < 2 ^ 31) : (nI j < nM) = False := by
  have e : nM.toInt = -1 := by decide
  rw [Int32.lt_iff_toInt_lt, e, nI_toInt h]
  exact eq_false (by omega)
theorem nM_le {j : Nat} (h : j < 2 ^ 31) : (nI j ≤ nM) = False := by
  have e : nM.toInt = -1 := by decide
  rw [Int32.le_iff_toInt_le, e, nI_toInt h]
  exact eq_false (by omega)
theorem nM_ge {j : Nat} (h : j < 2 ^ 31) : (nM ≤ nI j) = True := by
  have e : nM.toInt = -1 := by decide
  rw [Int32.le_iff_toInt_le, e, nI_toInt h]
  exact eq_true (by omega)
theorem nM_ne {j : Nat} (h : j < 2 ^ 31) : (nI j = nM) = False := by
  have e : nM.toInt = -1 := by decide
  refine eq_false (fun z => ?_)
  have := congrArg Int32.toInt z
  rw [nI_toInt h, e] at this
  omega
theorem nM_en {j : Nat} (h : j < 2 ^ 31) : (nM = nI j) = False := by
  refine eq_false (fun z => ?_)
  have h1 := nM_ne h
  rw [z] at h1
  exact h1.mp rfl
theorem am_sw_in {d lo hi : Int} {offs : Array Int} {j : Nat} {t : Int} (h : am_sw d lo hi offs (nI j) = t) : am_sw d lo hi offs (nI j) = t := h
theorem E_J7_fill {X : AmX} {G : GG} (o n : Nat) (v : Int32) (hsh : am_sh o = [0, n]) (hn : n < 2 ^ 31) (ho : o < 500) : Ev X 0 [.ref o, .int v] G none (gset G o (flt n v (G o))) := by
  refine Ev_of ?_
  show WP X 0 (am_blk 0 0) [some (.ref o), some (.int v), none, none] [] G _
  have hlen : am_len X o = some n := am_len_of hsh
  have key : ∀ d i : Nat, i + d = n → WP X 0 (am_blk 0 5) [some (.ref o), some (.int v), some (.int (nI i)), some (.int (nI n))] [] (gset G o (flt i v (G o))) (fun w H => w = none ∧ H = gset G o (flt n v (G o))) := by
    intro d
    induction d with
    | zero =>
      intro i hi
      rw [bh0_5]
      obtain rfl : i = n := by omega
      simp (config := { contextual := true, maxSteps := 1000000 }) (disch := first | exact am_nl_i | exact am_nl_r | exact am_nl_n | exact am_l0 | exact am_l1 | exact am_l2 | exact am_l3 | assumption | omega) only [wp_ldc, wp_sipush, wp_ldc_w, wp_lconst, wp_iadd, wp_isub, wp_imul, wp_iand, wp_ior, wp_ixor, wp_ishl, wp_ishr, wp_iushr, wp_idiv, wp_irem, wp_ineg, wp_i2b, wp_i2s, wp_i2c, wp_i2l, wp_ladd, wp_lmul, wp_lcmp, wp_dup_i, wp_dup_r, wp_dup2, wp_pop, wp_getfield, wp_putfield, wp_getstatic, wp_iaload, wp_baload, wp_aaload, wp_iastore, wp_arraylength, wp_goto, wp_fall, wp_ieq, wp_ine, wp_ilt, wp_ige, wp_igt, wp_ile, wp_ceq, wp_cne, wp_clt, wp_cge, wp_cgt, wp_cle, wp_sw, wp_ret0, wp_ret1z, wp_ret1o, wp_ret1, wp_ret2, wp_ret3, wp_ret4, wp_ret5, wp_return, wp_min, wp_max, wp_abs, am_ex, gset_eq, gset_ne, upd_eq, upd_ne, gset_gset, am_ci_1, am_ci_6, am_toList_some, am_toList_none, true_implies, false_implies, and_self, and_true, true_and, not_true_eq_false, not_false_eq_true, imp_self, implies_true, Classical.not_not, if_true, if_false, false_and, and_false, or_false, false_or, true_or, or_true, Nat.reduceAdd, Nat.reduceMul, Nat.reduceSub, Nat.reduceLT, Nat.reduceLeDiff, Nat.reduceEqDiff, Nat.reduceBneDiff, Nat.add_zero, Nat.zero_add, reduceCtorEq, wil0, wal0, wis0, wic0, wil1, wal1, wis1, wic1, wil2, wll2, wal2, wis2, was2, wls2, wic2, wil3, wis3, wic3, wic3m, wic3s, wil4, wis4, wic4, wil5, wis5, wic5, wic5m, wil6, wll6, wal6, wis6, was6, wls6, wic6, wil7, wal7, wis7, was7, wic7, wil8, wis8, wic8, wil9, wis9, wic9, wil10, wis10, wic10, am_nI_inj, am_nI_lt, am_nI_le, nI_add, pk_mul, am_nI_sub, am_add_m1, am_gfs, am_pfs, am_alds, am_asts, am_lens, bs0, am_B0_0, am_B0_5, am_B0_20, Nat.le_refl]
    | succ d ih =>
      intro i hi
      have ih := ih (i + 1) (by omega)
      have ha : ∀ G' : GG, am_ast G' o (nI i) v = some (gset G' o (upd (G' o) i v)) := fun G' => am_ast_of hsh hn (by omega)
      have hni : ¬ n ≤ i := by omega
      rw [bh0_5]
      simp (config := { contextual := true, maxSteps := 1000000 }) (disch := first | exact am_nl_i | exact am_nl_r | exact am_nl_n | exact am_l0 | exact am_l1 | exact am_l2 | exact am_l3 | assumption | omega) only [wp_ldc, wp_sipush, wp_ldc_w, wp_lconst, wp_iadd, wp_isub, wp_imul, wp_iand, wp_ior, wp_ixor, wp_ishl, wp_ishr, wp_iushr, wp_idiv, wp_irem, wp_ineg, wp_i2b, wp_i2s, wp_i2c, wp_i2l, wp_ladd, wp_lmul, wp_lcmp, wp_dup_i, wp_dup_r, wp_dup2, wp_pop, wp_getfield, wp_putfield, wp_getstatic, wp_iaload, wp_baload, wp_aaload, wp_iastore, wp_arraylength, wp_goto, wp_fall, wp_ieq, wp_ine, wp_ilt, wp_ige, wp_igt, wp_ile, wp_ceq, wp_cne, wp_clt, wp_cge, wp_cgt, wp_cle, wp_sw, wp_ret0, wp_ret1z, wp_ret1o, wp_ret1, wp_ret2, wp_ret3, wp_ret4, wp_ret5, wp_return, wp_min, wp_max, wp_abs, am_ex, gset_eq, gset_ne, upd_eq, upd_ne, gset_gset, am_ci_1, am_ci_6, am_toList_some, am_toList_none, true_implies, false_implies, and_self, and_true, true_and, not_true_eq_false, not_false_eq_true, imp_self, implies_true, Classical.not_not, if_true, if_false, false_and, and_false, or_false, false_or, true_or, or_true, Nat.reduceAdd, Nat.reduceMul, Nat.reduceSub, Nat.reduceLT, Nat.reduceLeDiff, Nat.reduceEqDiff, Nat.reduceBneDiff, Nat.add_zero, Nat.zero_add, reduceCtorEq, wil0, wal0, wis0, wic0, wil1, wal1, wis1, wic1, wil2, wll2, wal2, wis2, was2, wls2, wic2, wil3, wis3, wic3, wic3m, wic3s, wil4, wis4, wic4, wil5, wis5, wic5, wic5m, wil6, wll6, wal6, wis6, was6, wls6, wic6, wil7, wal7, wis7, was7, wic7, wil8, wis8, wic8, wil9, wis9, wic9, wil10, wis10, wic10, am_nI_inj, am_nI_lt, am_nI_le, nI_add, pk_mul, am_nI_sub, am_add_m1, am_gfs, am_pfs, am_alds, am_asts, am_lens, bs0, am_B0_0, am_B0_5, am_B0_20, ha, flt_s, hni]
      exact ih
  have k0 := key n 0 (by omega)
  rw [flt_0] at k0
  have e0 : gset G o (G o) = G := by funext j; unfold gset; by_cases h : j = o <;> simp [h]
  rw [e0] at k0
  simp (config := { contextual := true, maxSteps := 1000000 }) (disch := first | exact am_nl_i | exact am_nl_r | exact am_nl_n | exact am_l0 | exact am_l1 | exact am_l2 | exact am_l3 | assumption | omega) only [wp_ldc, wp_sipush, wp_ldc_w, wp_lconst, wp_iadd, wp_isub, wp_imul, wp_iand, wp_ior, wp_ixor, wp_ishl, wp_ishr, wp_iushr, wp_idiv, wp_irem, wp_ineg, wp_i2b, wp_i2s, wp_i2c, wp_i2l, wp_ladd, wp_lmul, wp_lcmp, wp_dup_i, wp_dup_r, wp_dup2, wp_pop, wp_getfield, wp_putfield, wp_getstatic, wp_iaload, wp_baload, wp_aaload, wp_iastore, wp_arraylength, wp_goto, wp_fall, wp_ieq, wp_ine, wp_ilt, wp_ige, wp_igt, wp_ile, wp_ceq, wp_cne, wp_clt, wp_cge, wp_cgt, wp_cle, wp_sw, wp_ret0, wp_ret1z, wp_ret1o, wp_ret1, wp_ret2, wp_ret3, wp_ret4, wp_ret5, wp_return, wp_min, wp_max, wp_abs, am_ex, gset_eq, gset_ne, upd_eq, upd_ne, gset_gset, am_ci_1, am_ci_6, am_toList_some, am_toList_none, true_implies, false_implies, and_self, and_true, true_and, not_true_eq_false, not_false_eq_true, imp_self, implies_true, Classical.not_not, if_true, if_false, false_and, and_false, or_false, false_or, true_or, or_true, Nat.reduceAdd, Nat.reduceMul, Nat.reduceSub, Nat.reduceLT, Nat.reduceLeDiff, Nat.reduceEqDiff, Nat.reduceBneDiff, Nat.add_zero, Nat.zero_add, reduceCtorEq, wil0, wal0, wis0, wic0, wil1, wal1, wis1, wic1, wil2, wll2, wal2, wis2, was2, wls2, wic2, wil3, wis3, wic3, wic3m, wic3s, wil4, wis4, wic4, wil5, wis5, wic5, wic5m, wil6, wll6, wal6, wis6, was6, wls6, wic6, wil7, wal7, wis7, was7, wic7, wil8, wis8, wic8, wil9, wis9, wic9, wil10, wis10, wic10, am_nI_inj, am_nI_lt, am_nI_le, nI_add, pk_mul, am_nI_sub, am_add_m1, am_gfs, am_pfs, am_alds, am_asts, am_lens, bs0, am_B0_0, am_B0_5, am_B0_20, hlen]
  exact k0
theorem C_J7_fill {X : AmX} {G : GG} {k : Nat} {r : List Instr} {lv : LV} {st : List Value} {Q : Option Value → GG → Prop} {o n : Nat} {v : Int32} (hsh : am_sh o = [0, n]) (hn : n < 2 ^ 31) (ho : o < 500) (hl : st.length ≤ 4) : WP X k (.invokeinterface 0 2 :: r) lv (.int v :: .ref o :: st) G Q ↔ WP X k r lv st (gset G o (flt n v (G o))) Q := WP_ev (E_J7_fill o n v hsh hn ho) (by decide) rfl rfl hl rfl
theorem E_X5_within {X : AmX} {G : GG} (v lo hi : Int32)  : Ev X 15 [.int v, .int lo, .int hi] G (some (.int (bI (inR v lo hi)))) (G) := by
  refine Ev_of ?_
  show WP X 15 (am_blk 15 0) [some (.int v), some (.int lo), some (.int hi)] [] G _
  simp (config := { contextual := true, maxSteps := 1000000 }) (disch := first | exact am_nl_i | exact am_nl_r | exact am_nl_n | exact am_l0 | exact am_l1 | exact am_l2 | exact am_l3 | assumption | omega) only [wp_ldc, wp_sipush, wp_ldc_w, wp_lconst, wp_iadd, wp_isub, wp_imul, wp_iand, wp_ior, wp_ixor, wp_ishl, wp_ishr, wp_iushr, wp_idiv, wp_irem, wp_ineg, wp_i2b, wp_i2s, wp_i2c, wp_i2l, wp_ladd, wp_lmul, wp_lcmp, wp_dup_i, wp_dup_r, wp_dup2, wp_pop, wp_getfield, wp_putfield, wp_getstatic, wp_iaload, wp_baload, wp_aaload, wp_iastore, wp_arraylength, wp_goto, wp_fall, wp_ieq, wp_ine, wp_ilt, wp_ige, wp_igt, wp_ile, wp_ceq, wp_cne, wp_clt, wp_cge, wp_cgt, wp_cle, wp_sw, wp_ret0, wp_ret1z, wp_ret1o, wp_ret1, wp_ret2, wp_ret3, wp_ret4, wp_ret5, wp_return, wp_min, wp_max, wp_abs, am_ex, gset_eq, gset_ne, upd_eq, upd_ne, gset_gset, am_ci_1, am_ci_6, am_toList_some, am_toList_none, true_implies, false_implies, and_self, and_true, true_and, not_true_eq_false, not_false_eq_true, imp_self, implies_true, Classical.not_not, if_true, if_false, false_and, and_false, or_false, false_or, true_or, or_true, Nat.reduceAdd, Nat.reduceMul, Nat.reduceSub, Nat.reduceLT, Nat.reduceLeDiff, Nat.reduceEqDiff, Nat.reduceBneDiff, Nat.add_zero, Nat.zero_add, reduceCtorEq, wil0, wal0, wis0, wic0, wil1, wal1, wis1, wic1, wil2, wll2, wal2, wis2, was2, wls2, wic2, wil3, wis3, wic3, wic3m, wic3s, wil4, wis4, wic4, wil5, wis5, wic5, wic5m, wil6, wll6, wal6, wis6, was6, wls6, wic6, wil7, wal7, wis7, was7, wic7, wil8, wis8, wic8, wil9, wis9, wic9, wil10, wis10, wic10, am_nI_inj, am_nI_lt, am_nI_le, nI_add, pk_mul, am_nI_sub, am_add_m1, am_gfs, am_pfs, am_alds, am_asts, am_lens, bk15_0, bk15_14, am_B15_0, am_B15_14]
  by_cases h1 : v < lo
  · simp (config := { contextual := true, maxSteps := 1000000 }) (disch := first | exact am_nl_i | exact am_nl_r | exact am_nl_n | exact am_l0 | exact am_l1 | exact am_l2 | exact am_l3 | assumption | omega) only [wp_ldc, wp_sipush, wp_ldc_w, wp_lconst, wp_iadd, wp_isub, wp_imul, wp_iand, wp_ior, wp_ixor, wp_ishl, wp_ishr, wp_iushr, wp_idiv, wp_irem, wp_ineg, wp_i2b, wp_i2s, wp_i2c, wp_i2l, wp_ladd, wp_lmul, wp_lcmp, wp_dup_i, wp_dup_r, wp_dup2, wp_pop, wp_getfield, wp_putfield, wp_getstatic, wp_iaload, wp_baload, wp_aaload, wp_iastore, wp_arraylength, wp_goto, wp_fall, wp_ieq, wp_ine, wp_ilt, wp_ige, wp_igt, wp_ile, wp_ceq, wp_cne, wp_clt, wp_cge, wp_cgt, wp_cle, wp_sw, wp_ret0, wp_ret1z, wp_ret1o, wp_ret1, wp_ret2, wp_ret3, wp_ret4, wp_ret5, wp_return, wp_min, wp_max, wp_abs, am_ex, gset_eq, gset_ne, upd_eq, upd_ne, gset_gset, am_ci_1, am_ci_6, am_toList_some, am_toList_none, true_implies, false_implies, and_self, and_true, true_and, not_true_eq_false, not_false_eq_true, imp_self, implies_true, Classical.not_not, if_true, if_false, false_and, and_false, or_false, false_or, true_or, or_true, Nat.reduceAdd, Nat.reduceMul, Nat.reduceSub, Nat.reduceLT, Nat.reduceLeDiff, Nat.reduceEqDiff, Nat.reduceBneDiff, Nat.add_zero, Nat.zero_add, reduceCtorEq, wil0, wal0, wis0, wic0, wil1, wal1, wis1, wic1, wil2, wll2, wal2, wis2, was2, wls2, wic2, wil3, wis3, wic3, wic3m, wic3s, wil4, wis4, wic4, wil5, wis5, wic5, wic5m, wil6, wll6, wal6, wis6, was6, wls6, wic6, wil7, wal7, wis7, was7, wic7, wil8, wis8, wic8, wil9, wis9, wic9, wil10, wis10, wic10, am_nI_inj, am_nI_lt, am_nI_le, nI_add, pk_mul, am_nI_sub, am_add_m1, am_gfs, am_pfs, am_alds, am_asts, am_lens, h1, bk15_15, am_B15_15, inR, bI, decide_false]
    try simp
  · by_cases h2 : hi < v
    · simp (config := { contextual := true, maxSteps := 1000000 }) (disch := first | exact am_nl_i | exact am_nl_r | exact am_nl_n | exact am_l0 | exact am_l1 | exact am_l2 | exact am_l3 | assumption | omega) only [wp_ldc, wp_sipush, wp_ldc_w, wp_lconst, wp_iadd, wp_isub, wp_imul, wp_iand, wp_ior, wp_ixor, wp_ishl, wp_ishr, wp_iushr, wp_idiv, wp_irem, wp_ineg, wp_i2b, wp_i2s, wp_i2c, wp_i2l, wp_ladd, wp_lmul, wp_lcmp, wp_dup_i, wp_dup_r, wp_dup2, wp_pop, wp_getfield, wp_putfield, wp_getstatic, wp_iaload, wp_baload, wp_aaload, wp_iastore, wp_arraylength, wp_goto, wp_fall, wp_ieq, wp_ine, wp_ilt, wp_ige, wp_igt, wp_ile, wp_ceq, wp_cne, wp_clt, wp_cge, wp_cgt, wp_cle, wp_sw, wp_ret0, wp_ret1z, wp_ret1o, wp_ret1, wp_ret2, wp_ret3, wp_ret4, wp_ret5, wp_return, wp_min, wp_max, wp_abs, am_ex, gset_eq, gset_ne, upd_eq, upd_ne, gset_gset, am_ci_1, am_ci_6, am_toList_some, am_toList_none, true_implies, false_implies, and_self, and_true, true_and, not_true_eq_false, not_false_eq_true, imp_self, implies_true, Classical.not_not, if_true, if_false, false_and, and_false, or_false, false_or, true_or, or_true, Nat.reduceAdd, Nat.reduceMul, Nat.reduceSub, Nat.reduceLT, Nat.reduceLeDiff, Nat.reduceEqDiff, Nat.reduceBneDiff, Nat.add_zero, Nat.zero_add, reduceCtorEq, wil0, wal0, wis0, wic0, wil1, wal1, wis1, wic1, wil2, wll2, wal2, wis2, was2, wls2, wic2, wil3, wis3, wic3, wic3m, wic3s, wil4, wis4, wic4, wil5, wis5, wic5, wic5m, wil6, wll6, wal6, wis6, was6, wls6, wic6, wil7, wal7, wis7, was7, wic7, wil8, wis8, wic8, wil9, wis9, wic9, wil10, wis10, wic10, am_nI_inj, am_nI_lt, am_nI_le, nI_add, pk_mul, am_nI_sub, am_add_m1, am_gfs, am_pfs, am_alds, am_asts, am_lens, h1, h2, bk15_15, am_B15_15, inR, bI]
      simp
    · simp (config := { contextual := true, maxSteps := 1000000 }) (disch := first | exact am_nl_i | exact am_nl_r | exact am_nl_n | exact am_l0 | exact am_l1 | exact am_l2 | exact am_l3 | assumption | omega) only [wp_ldc, wp_sipush, wp_ldc_w, wp_lconst, wp_iadd, wp_isub, wp_imul, wp_iand, wp_ior, wp_ixor, wp_ishl, wp_ishr, wp_iushr, wp_idiv, wp_irem, wp_ineg, wp_i2b, wp_i2s, wp_i2c, wp_i2l, wp_ladd, wp_lmul, wp_lcmp, wp_dup_i, wp_dup_r, wp_dup2, wp_pop, wp_getfield, wp_putfield, wp_getstatic, wp_iaload, wp_baload, wp_aaload, wp_iastore, wp_arraylength, wp_goto, wp_fall, wp_ieq, wp_ine, wp_ilt, wp_ige, wp_igt, wp_ile, wp_ceq, wp_cne, wp_clt, wp_cge, wp_cgt, wp_cle, wp_sw, wp_ret0, wp_ret1z, wp_ret1o, wp_ret1, wp_ret2, wp_ret3, wp_ret4, wp_ret5, wp_return, wp_min, wp_max, wp_abs, am_ex, gset_eq, gset_ne, upd_eq, upd_ne, gset_gset, am_ci_1, am_ci_6, am_toList_some, am_toList_none, true_implies, false_implies, and_self, and_true, true_and, not_true_eq_false, not_false_eq_true, imp_self, implies_true, Classical.not_not, if_true, if_false, false_and, and_false, or_false, false_or, true_or, or_true, Nat.reduceAdd, Nat.reduceMul, Nat.reduceSub, Nat.reduceLT, Nat.reduceLeDiff, Nat.reduceEqDiff, Nat.reduceBneDiff, Nat.add_zero, Nat.zero_add, reduceCtorEq, wil0, wal0, wis0, wic0, wil1, wal1, wis1, wic1, wil2, wll2, wal2, wis2, was2, wls2, wic2, wil3, wis3, wic3, wic3m, wic3s, wil4, wis4, wic4, wil5, wis5, wic5, wic5m, wil6, wll6, wal6, wis6, was6, wls6, wic6, wil7, wal7, wis7, was7, wic7, wil8, wis8, wic8, wil9, wis9, wic9, wil10, wis10, wic10, am_nI_inj, am_nI_lt, am_nI_le, nI_add, pk_mul, am_nI_sub, am_add_m1, am_gfs, am_pfs, am_alds, am_asts, am_lens, h1, h2, bk15_15, am_B15_15, inR, bI]
      simp
theorem C_X5_within {X : AmX} {G : GG} {k : Nat} {r : List Instr} {lv : LV} {st : List Value} {Q : Option Value → GG → Prop} {v lo hi : Int32}  (hl : st.length ≤ 4) : WP X k (.invokeinterface 15 3 :: r) lv ((.int hi) :: (.int lo) :: (.int v) :: st) G Q ↔ WP X k r lv ((.int (bI (inR v lo hi))) :: st) (G) Q := WP_ev (E_X5_within v lo hi) (by decide) rfl rfl hl (rfl)
theorem E_X4_isWithin {X : AmX} {G : GG} (v lo hi : Int32)  : Ev X 11 [.int v, .int lo, .int hi] G (some (.int (bI (inR v lo hi)))) (G) := by
  refine Ev_of ?_
  show WP X 11 (am_blk 11 0) [some (.int v), some (.int lo), some (.int hi)] [] G _
  simp (config := { contextual := true, maxSteps := 1000000 }) (disch := first | exact am_nl_i | exact am_nl_r | exact am_nl_n | exact am_l0 | exact am_l1 | exact am_l2 | exact am_l3 | assumption | omega) only [wp_ldc, wp_sipush, wp_ldc_w, wp_lconst, wp_iadd, wp_isub, wp_imul, wp_iand, wp_ior, wp_ixor, wp_ishl, wp_ishr, wp_iushr, wp_idiv, wp_irem, wp_ineg, wp_i2b, wp_i2s, wp_i2c, wp_i2l, wp_ladd, wp_lmul, wp_lcmp, wp_dup_i, wp_dup_r, wp_dup2, wp_pop, wp_getfield, wp_putfield, wp_getstatic, wp_iaload, wp_baload, wp_aaload, wp_iastore, wp_arraylength, wp_goto, wp_fall, wp_ieq, wp_ine, wp_ilt, wp_ige, wp_igt, wp_ile, wp_ceq, wp_cne, wp_clt, wp_cge, wp_cgt, wp_cle, wp_sw, wp_ret0, wp_ret1z, wp_ret1o, wp_ret1, wp_ret2, wp_ret3, wp_ret4, wp_ret5, wp_return, wp_min, wp_max, wp_abs, am_ex, gset_eq, gset_ne, upd_eq, upd_ne, gset_gset, am_ci_1, am_ci_6, am_toList_some, am_toList_none, true_implies, false_implies, and_self, and_true, true_and, not_true_eq_false, not_false_eq_true, imp_self, implies_true, Classical.not_not, if_true, if_false, false_and, and_false, or_false, false_or, true_or, or_true, Nat.reduceAdd, Nat.reduceMul, Nat.reduceSub, Nat.reduceLT, Nat.reduceLeDiff, Nat.reduceEqDiff, Nat.reduceBneDiff, Nat.add_zero, Nat.zero_add, reduceCtorEq, wil0, wal0, wis0, wic0, wil1, wal1, wis1, wic1, wil2, wll2, wal2, wis2, was2, wls2, wic2, wil3, wis3, wic3, wic3m, wic3s, wil4, wis4, wic4, wil5, wis5, wic5, wic5m, wil6, wll6, wal6, wis6, was6, wls6, wic6, wil7, wal7, wis7, was7, wic7, wil8, wis8, wic8, wil9, wis9, wic9, wil10, wis10, wic10, am_nI_inj, am_nI_lt, am_nI_le, nI_add, pk_mul, am_nI_sub, am_add_m1, am_gfs, am_pfs, am_alds, am_asts, am_lens, bk11_0, bk11_14, am_B11_0, am_B11_14]
  by_cases h1 : v < lo
  · simp (config := { contextual := true, maxSteps := 1000000 }) (disch := first | exact am_nl_i | exact am_nl_r | exact am_nl_n | exact am_l0 | exact am_l1 | exact am_l2 | exact am_l3 | assumption | omega) only [wp_ldc, wp_sipush, wp_ldc_w, wp_lconst, wp_iadd, wp_isub, wp_imul, wp_iand, wp_ior, wp_ixor, wp_ishl, wp_ishr, wp_iushr, wp_idiv, wp_irem, wp_ineg, wp_i2b, wp_i2s, wp_i2c, wp_i2l, wp_ladd, wp_lmul, wp_lcmp, wp_dup_i, wp_dup_r, wp_dup2, wp_pop, wp_getfield, wp_putfield, wp_getstatic, wp_iaload, wp_baload, wp_aaload, wp_iastore, wp_arraylength, wp_goto, wp_fall, wp_ieq, wp_ine, wp_ilt, wp_ige, wp_igt, wp_ile, wp_ceq, wp_cne, wp_clt, wp_cge, wp_cgt, wp_cle, wp_sw, wp_ret0, wp_ret1z, wp_ret1o, wp_ret1, wp_ret2, wp_ret3, wp_ret4, wp_ret5, wp_return, wp_min, wp_max, wp_abs, am_ex, gset_eq, gset_ne, upd_eq, upd_ne, gset_gset, am_ci_1, am_ci_6, am_toList_some, am_toList_none, true_implies, false_implies, and_self, and_true, true_and, not_true_eq_false, not_false_eq_true, imp_self, implies_true, Classical.not_not, if_true, if_false, false_and, and_false, or_false, false_or, true_or, or_true, Nat.reduceAdd, Nat.reduceMul, Nat.reduceSub, Nat.reduceLT, Nat.reduceLeDiff, Nat.reduceEqDiff, Nat.reduceBneDiff, Nat.add_zero, Nat.zero_add, reduceCtorEq, wil0, wal0, wis0, wic0, wil1, wal1, wis1, wic1, wil2, wll2, wal2, wis2, was2, wls2, wic2, wil3, wis3, wic3, wic3m, wic3s, wil4, wis4, wic4, wil5, wis5, wic5, wic5m, wil6, wll6, wal6, wis6, was6, wls6, wic6, wil7, wal7, wis7, was7, wic7, wil8, wis8, wic8, wil9, wis9, wic9, wil10, wis10, wic10, am_nI_inj, am_nI_lt, am_nI_le, nI_add, pk_mul, am_nI_sub, am_add_m1, am_gfs, am_pfs, am_alds, am_asts, am_lens, h1, bk11_15, am_B11_15, inR, bI, decide_false]
    try simp
  · by_cases h2 : hi < v
    · simp (config := { contextual := true, maxSteps := 1000000 }) (disch := first | exact am_nl_i | exact am_nl_r | exact am_nl_n | exact am_l0 | exact am_l1 | exact am_l2 | exact am_l3 | assumption | omega) only [wp_ldc, wp_sipush, wp_ldc_w, wp_lconst, wp_iadd, wp_isub, wp_imul, wp_iand, wp_ior, wp_ixor, wp_ishl, wp_ishr, wp_iushr, wp_idiv, wp_irem, wp_ineg, wp_i2b, wp_i2s, wp_i2c, wp_i2l, wp_ladd, wp_lmul, wp_lcmp, wp_dup_i, wp_dup_r, wp_dup2, wp_pop, wp_getfield, wp_putfield, wp_getstatic, wp_iaload, wp_baload, wp_aaload, wp_iastore, wp_arraylength, wp_goto, wp_fall, wp_ieq, wp_ine, wp_ilt, wp_ige, wp_igt, wp_ile, wp_ceq, wp_cne, wp_clt, wp_cge, wp_cgt, wp_cle, wp_sw, wp_ret0, wp_ret1z, wp_ret1o, wp_ret1, wp_ret2, wp_ret3, wp_ret4, wp_ret5, wp_return, wp_min, wp_max, wp_abs, am_ex, gset_eq, gset_ne, upd_eq, upd_ne, gset_gset, am_ci_1, am_ci_6, am_toList_some, am_toList_none, true_implies, false_implies, and_self, and_true, true_and, not_true_eq_false, not_false_eq_true, imp_self, implies_true, Classical.not_not, if_true, if_false, false_and, and_false, or_false, false_or, true_or, or_true, Nat.reduceAdd, Nat.reduceMul, Nat.reduceSub, Nat.reduceLT, Nat.reduceLeDiff, Nat.reduceEqDiff, Nat.reduceBneDiff, Nat.add_zero, Nat.zero_add, reduceCtorEq, wil0, wal0, wis0, wic0, wil1, wal1, wis1, wic1, wil2, wll2, wal2, wis2, was2, wls2, wic2, wil3, wis3, wic3, wic3m, wic3s, wil4, wis4, wic4, wil5, wis5, wic5, wic5m, wil6, wll6, wal6, wis6, was6, wls6, wic6, wil7, wal7, wis7, was7, wic7, wil8, wis8, wic8, wil9, wis9, wic9, wil10, wis10, wic10, am_nI_inj, am_nI_lt, am_nI_le, nI_add, pk_mul, am_nI_sub, am_add_m1, am_gfs, am_pfs, am_alds, am_asts, am_lens, h1, h2, bk11_15, am_B11_15, inR, bI]
      simp
    · simp (config := { contextual := true, maxSteps := 1000000 }) (disch := first | exact am_nl_i | exact am_nl_r | exact am_nl_n | exact am_l0 | exact am_l1 | exact am_l2 | exact am_l3 | assumption | omega) only [wp_ldc, wp_sipush, wp_ldc_w, wp_lconst, wp_iadd, wp_isub, wp_imul, wp_iand, wp_ior, wp_ixor, wp_ishl, wp_ishr, wp_iushr, wp_idiv, wp_irem, wp_ineg, wp_i2b, wp_i2s, wp_i2c, wp_i2l, wp_ladd, wp_lmul, wp_lcmp, wp_dup_i, wp_dup_r, wp_dup2, wp_pop, wp_getfield, wp_putfield, wp_getstatic, wp_iaload, wp_baload, wp_aaload, wp_iastore, wp_arraylength, wp_goto, wp_fall, wp_ieq, wp_ine, wp_ilt, wp_ige, wp_igt, wp_ile, wp_ceq, wp_cne, wp_clt, wp_cge, wp_cgt, wp_cle, wp_sw, wp_ret0, wp_ret1z, wp_ret1o, wp_ret1, wp_ret2, wp_ret3, wp_ret4, wp_ret5, wp_return, wp_min, wp_max, wp_abs, am_ex, gset_eq, gset_ne, upd_eq, upd_ne, gset_gset, am_ci_1, am_ci_6, am_toList_some, am_toList_none, true_implies, false_implies, and_self, and_true, true_and, not_true_eq_false, not_false_eq_true, imp_self, implies_true, Classical.not_not, if_true, if_false, false_and, and_false, or_false, false_or, true_or, or_true, Nat.reduceAdd, Nat.reduceMul, Nat.reduceSub, Nat.reduceLT, Nat.reduceLeDiff, Nat.reduceEqDiff, Nat.reduceBneDiff, Nat.add_zero, Nat.zero_add, reduceCtorEq, wil0, wal0, wis0, wic0, wil1, wal1, wis1, wic1, wil2, wll2, wal2, wis2, was2, wls2, wic2, wil3, wis3, wic3, wic3m, wic3s, wil4, wis4, wic4, wil5, wis5, wic5, wic5m, wil6, wll6, wal6, wis6, was6, wls6, wic6, wil7, wal7, wis7, was7, wic7, wil8, wis8, wic8, wil9, wis9, wic9, wil10, wis10, wic10, am_nI_inj, am_nI_lt, am_nI_le, nI_add, pk_mul, am_nI_sub, am_add_m1, am_gfs, am_pfs, am_alds, am_asts, am_lens, h1, h2, bk11_15, am_B11_15, inR, bI]
      simp
theorem C_X4_isWithin {X : AmX} {G : GG} {k : Nat} {r : List Instr} {lv : LV} {st : List Value} {Q : Option Value → GG → Prop} {v lo hi : Int32}  (hl : st.length ≤ 4) : WP X k (.invokeinterface 11 3 :: r) lv ((.int hi) :: (.int lo) :: (.int v) :: st) G Q ↔ WP X k r lv ((.int (bI (inR v lo hi))) :: st) (G) Q := WP_ev (E_X4_isWithin v lo hi) (by decide) rfl rfl hl (rfl)
theorem nI_78 (v : Int32) : (nI 8 ≤ v) = (nI 7 < v) := by
  have e1 : (nI 8).toInt = 8 := by decide
  have e2 : (nI 7).toInt = 7 := by decide
  rw [Int32.le_iff_toInt_le, Int32.lt_iff_toInt_lt, e1, e2]
  exact propext (by omega)
theorem E_X4_isPlace {X : AmX} {G : GG} (v : Int32)  : Ev X 10 [.int v] G (some (.int (bI (inR v (nI 0) (nI 7))))) (G) := by
  refine Ev_of ?_
  show WP X 10 (am_blk 10 0) [some (.int v)] [] G _
  simp (config := { contextual := true, maxSteps := 1000000 }) (disch := first | exact am_nl_i | exact am_nl_r | exact am_nl_n | exact am_l0 | exact am_l1 | exact am_l2 | exact am_l3 | assumption | omega) only [wp_ldc, wp_sipush, wp_ldc_w, wp_lconst, wp_iadd, wp_isub, wp_imul, wp_iand, wp_ior, wp_ixor, wp_ishl, wp_ishr, wp_iushr, wp_idiv, wp_irem, wp_ineg, wp_i2b, wp_i2s, wp_i2c, wp_i2l, wp_ladd, wp_lmul, wp_lcmp, wp_dup_i, wp_dup_r, wp_dup2, wp_pop, wp_getfield, wp_putfield, wp_getstatic, wp_iaload, wp_baload, wp_aaload, wp_iastore, wp_arraylength, wp_goto, wp_fall, wp_ieq, wp_ine, wp_ilt, wp_ige, wp_igt, wp_ile, wp_ceq, wp_cne, wp_clt, wp_cge, wp_cgt, wp_cle, wp_sw, wp_ret0, wp_ret1z, wp_ret1o, wp_ret1, wp_ret2, wp_ret3, wp_ret4, wp_ret5, wp_return, wp_min, wp_max, wp_abs, am_ex, gset_eq, gset_ne, upd_eq, upd_ne, gset_gset, am_ci_1, am_ci_6, am_toList_some, am_toList_none, true_implies, false_implies, and_self, and_true, true_and, not_true_eq_false, not_false_eq_true, imp_self, implies_true, Classical.not_not, if_true, if_false, false_and, and_false, or_false, false_or, true_or, or_true, Nat.reduceAdd, Nat.reduceMul, Nat.reduceSub, Nat.reduceLT, Nat.reduceLeDiff, Nat.reduceEqDiff, Nat.reduceBneDiff, Nat.add_zero, Nat.zero_add, reduceCtorEq, wil0, wal0, wis0, wic0, wil1, wal1, wis1, wic1, wil2, wll2, wal2, wis2, was2, wls2, wic2, wil3, wis3, wic3, wic3m, wic3s, wil4, wis4, wic4, wil5, wis5, wic5, wic5m, wil6, wll6, wal6, wis6, was6, wls6, wic6, wil7, wal7, wis7, was7, wic7, wil8, wis8, wic8, wil9, wis9, wic9, wil10, wis10, wic10, am_nI_inj, am_nI_lt, am_nI_le, nI_add, pk_mul, am_nI_sub, am_add_m1, am_gfs, am_pfs, am_alds, am_asts, am_lens, bk10_0, bk10_14, am_B10_0, am_B10_14, nI_78]
  by_cases h1 : v < nI 0
  · simp (config := { contextual := true, maxSteps := 1000000 }) (disch := first | exact am_nl_i | exact am_nl_r | exact am_nl_n | exact am_l0 | exact am_l1 | exact am_l2 | exact am_l3 | assumption | omega) only [wp_ldc, wp_sipush, wp_ldc_w, wp_lconst, wp_iadd, wp_isub, wp_imul, wp_iand, wp_ior, wp_ixor, wp_ishl, wp_ishr, wp_iushr, wp_idiv, wp_irem, wp_ineg, wp_i2b, wp_i2s, wp_i2c, wp_i2l, wp_ladd, wp_lmul, wp_lcmp, wp_dup_i, wp_dup_r, wp_dup2, wp_pop, wp_getfield, wp_putfield, wp_getstatic, wp_iaload, wp_baload, wp_aaload, wp_iastore, wp_arraylength, wp_goto, wp_fall, wp_ieq, wp_ine, wp_ilt, wp_ige, wp_igt, wp_ile, wp_ceq, wp_cne, wp_clt, wp_cge, wp_cgt, wp_cle, wp_sw, wp_ret0, wp_ret1z, wp_ret1o, wp_ret1, wp_ret2, wp_ret3, wp_ret4, wp_ret5, wp_return, wp_min, wp_max, wp_abs, am_ex, gset_eq, gset_ne, upd_eq, upd_ne, gset_gset, am_ci_1, am_ci_6, am_toList_some, am_toList_none, true_implies, false_implies, and_self, and_true, true_and, not_true_eq_false, not_false_eq_true, imp_self, implies_true, Classical.not_not, if_true, if_false, false_and, and_false, or_false, false_or, true_or, or_true, Nat.reduceAdd, Nat.reduceMul, Nat.reduceSub, Nat.reduceLT, Nat.reduceLeDiff, Nat.reduceEqDiff, Nat.reduceBneDiff, Nat.add_zero, Nat.zero_add, reduceCtorEq, wil0, wal0, wis0, wic0, wil1, wal1, wis1, wic1, wil2, wll2, wal2, wis2, was2, wls2, wic2, wil3, wis3, wic3, wic3m, wic3s, wil4, wis4, wic4, wil5, wis5, wic5, wic5m, wil6, wll6, wal6, wis6, was6, wls6, wic6, wil7, wal7, wis7, was7, wic7, wil8, wis8, wic8, wil9, wis9, wic9, wil10, wis10, wic10, am_nI_inj, am_nI_lt, am_nI_le, nI_add, pk_mul, am_nI_sub, am_add_m1, am_gfs, am_pfs, am_alds, am_asts, am_lens, h1, bk10_15, am_B10_15, inR, bI, decide_false]
    try simp
  · by_cases h2 : nI 7 < v
    · simp (config := { contextual := true, maxSteps := 1000000 }) (disch := first | exact am_nl_i | exact am_nl_r | exact am_nl_n | exact am_l0 | exact am_l1 | exact am_l2 | exact am_l3 | assumption | omega) only [wp_ldc, wp_sipush, wp_ldc_w, wp_lconst, wp_iadd, wp_isub, wp_imul, wp_iand, wp_ior, wp_ixor, wp_ishl, wp_ishr, wp_iushr, wp_idiv, wp_irem, wp_ineg, wp_i2b, wp_i2s, wp_i2c, wp_i2l, wp_ladd, wp_lmul, wp_lcmp, wp_dup_i, wp_dup_r, wp_dup2, wp_pop, wp_getfield, wp_putfield, wp_getstatic, wp_iaload, wp_baload, wp_aaload, wp_iastore, wp_arraylength, wp_goto, wp_fall, wp_ieq, wp_ine, wp_ilt, wp_ige, wp_igt, wp_ile, wp_ceq, wp_cne, wp_clt, wp_cge, wp_cgt, wp_cle, wp_sw, wp_ret0, wp_ret1z, wp_ret1o, wp_ret1, wp_ret2, wp_ret3, wp_ret4, wp_ret5, wp_return, wp_min, wp_max, wp_abs, am_ex, gset_eq, gset_ne, upd_eq, upd_ne, gset_gset, am_ci_1, am_ci_6, am_toList_some, am_toList_none, true_implies, false_implies, and_self, and_true, true_and, not_true_eq_false, not_false_eq_true, imp_self, implies_true, Classical.not_not, if_true, if_false, false_and, and_false, or_false, false_or, true_or, or_true, Nat.reduceAdd, Nat.reduceMul, Nat.reduceSub, Nat.reduceLT, Nat.reduceLeDiff, Nat.reduceEqDiff, Nat.reduceBneDiff, Nat.add_zero, Nat.zero_add, reduceCtorEq, wil0, wal0, wis0, wic0, wil1, wal1, wis1, wic1, wil2, wll2, wal2, wis2, was2, wls2, wic2, wil3, wis3, wic3, wic3m, wic3s, wil4, wis4, wic4, wil5, wis5, wic5, wic5m, wil6, wll6, wal6, wis6, was6, wls6, wic6, wil7, wal7, wis7, was7, wic7, wil8, wis8, wic8, wil9, wis9, wic9, wil10, wis10, wic10, am_nI_inj, am_nI_lt, am_nI_le, nI_add, pk_mul, am_nI_sub, am_add_m1, am_gfs, am_pfs, am_alds, am_asts, am_lens, h1, h2, bk10_15, am_B10_15, inR, bI]
      simp
    · simp (config := { contextual := true, maxSteps := 1000000 }) (disch := first | exact am_nl_i | exact am_nl_r | exact am_nl_n | exact am_l0 | exact am_l1 | exact am_l2 | exact am_l3 | assumption | omega) only [wp_ldc, wp_sipush, wp_ldc_w, wp_lconst, wp_iadd, wp_isub, wp_imul, wp_iand, wp_ior, wp_ixor, wp_ishl, wp_ishr, wp_iushr, wp_idiv, wp_irem, wp_ineg, wp_i2b, wp_i2s, wp_i2c, wp_i2l, wp_ladd, wp_lmul, wp_lcmp, wp_dup_i, wp_dup_r, wp_dup2, wp_pop, wp_getfield, wp_putfield, wp_getstatic, wp_iaload, wp_baload, wp_aaload, wp_iastore, wp_arraylength, wp_goto, wp_fall, wp_ieq, wp_ine, wp_ilt, wp_ige, wp_igt, wp_ile, wp_ceq, wp_cne, wp_clt, wp_cge, wp_cgt, wp_cle, wp_sw, wp_ret0, wp_ret1z, wp_ret1o, wp_ret1, wp_ret2, wp_ret3, wp_ret4, wp_ret5, wp_return, wp_min, wp_max, wp_abs, am_ex, gset_eq, gset_ne, upd_eq, upd_ne, gset_gset, am_ci_1, am_ci_6, am_toList_some, am_toList_none, true_implies, false_implies, and_self, and_true, true_and, not_true_eq_false, not_false_eq_true, imp_self, implies_true, Classical.not_not, if_true, if_false, false_and, and_false, or_false, false_or, true_or, or_true, Nat.reduceAdd, Nat.reduceMul, Nat.reduceSub, Nat.reduceLT, Nat.reduceLeDiff, Nat.reduceEqDiff, Nat.reduceBneDiff, Nat.add_zero, Nat.zero_add, reduceCtorEq, wil0, wal0, wis0, wic0, wil1, wal1, wis1, wic1, wil2, wll2, wal2, wis2, was2, wls2, wic2, wil3, wis3, wic3, wic3m, wic3s, wil4, wis4, wic4, wil5, wis5, wic5, wic5m, wil6, wll6, wal6, wis6, was6, wls6, wic6, wil7, wal7, wis7, was7, wic7, wil8, wis8, wic8, wil9, wis9, wic9, wil10, wis10, wic10, am_nI_inj, am_nI_lt, am_nI_le, nI_add, pk_mul, am_nI_sub, am_add_m1, am_gfs, am_pfs, am_alds, am_asts, am_lens, h1, h2, bk10_15, am_B10_15, inR, bI]
      simp
theorem C_X4_isPlace {X : AmX} {G : GG} {k : Nat} {r : List Instr} {lv : LV} {st : List Value} {Q : Option Value → GG → Prop} {v : Int32}  (hl : st.length ≤ 4) : WP X k (.invokeinterface 10 1 :: r) lv ((.int v) :: st) G Q ↔ WP X k r lv ((.int (bI (inR v (nI 0) (nI 7)))) :: st) (G) Q := WP_ev (E_X4_isPlace v) (by decide) rfl rfl hl (rfl)
theorem E_X5_at {X : AmX} {G : GG} (i f : Nat)  : Ev X 29 [.int (nI i), .int (nI f)] G (some (.int (nI (21 + 5 * i + f)))) (G) := by
  refine Ev_of ?_
  show WP X 29 (am_blk 29 0) [some (.int (nI i)), some (.int (nI f))] [] G _
  simp (config := { contextual := true, maxSteps := 1000000 }) (disch := first | exact am_nl_i | exact am_nl_r | exact am_nl_n | exact am_l0 | exact am_l1 | exact am_l2 | exact am_l3 | assumption | omega) only [wp_ldc, wp_sipush, wp_ldc_w, wp_lconst, wp_iadd, wp_isub, wp_imul, wp_iand, wp_ior, wp_ixor, wp_ishl, wp_ishr, wp_iushr, wp_idiv, wp_irem, wp_ineg, wp_i2b, wp_i2s, wp_i2c, wp_i2l, wp_ladd, wp_lmul, wp_lcmp, wp_dup_i, wp_dup_r, wp_dup2, wp_pop, wp_getfield, wp_putfield, wp_getstatic, wp_iaload, wp_baload, wp_aaload, wp_iastore, wp_arraylength, wp_goto, wp_fall, wp_ieq, wp_ine, wp_ilt, wp_ige, wp_igt, wp_ile, wp_ceq, wp_cne, wp_clt, wp_cge, wp_cgt, wp_cle, wp_sw, wp_ret0, wp_ret1z, wp_ret1o, wp_ret1, wp_ret2, wp_ret3, wp_ret4, wp_ret5, wp_return, wp_min, wp_max, wp_abs, am_ex, gset_eq, gset_ne, upd_eq, upd_ne, gset_gset, am_ci_1, am_ci_6, am_toList_some, am_toList_none, true_implies, false_implies, and_self, and_true, true_and, not_true_eq_false, not_false_eq_true, imp_self, implies_true, Classical.not_not, if_true, if_false, false_and, and_false, or_false, false_or, true_or, or_true, Nat.reduceAdd, Nat.reduceMul, Nat.reduceSub, Nat.reduceLT, Nat.reduceLeDiff, Nat.reduceEqDiff, Nat.reduceBneDiff, Nat.add_zero, Nat.zero_add, reduceCtorEq, wil0, wal0, wis0, wic0, wil1, wal1, wis1, wic1, wil2, wll2, wal2, wis2, was2, wls2, wic2, wil3, wis3, wic3, wic3m, wic3s, wil4, wis4, wic4, wil5, wis5, wic5, wic5m, wil6, wll6, wal6, wis6, was6, wls6, wic6, wil7, wal7, wis7, was7, wic7, wil8, wis8, wic8, wil9, wis9, wic9, wil10, wis10, wic10, am_nI_inj, am_nI_lt, am_nI_le, nI_add, pk_mul, am_nI_sub, am_add_m1, am_gfs, am_pfs, am_alds, am_asts, am_lens, bs29, am_B29_0]
theorem C_X5_at {X : AmX} {G : GG} {k : Nat} {r : List Instr} {lv : LV} {st : List Value} {Q : Option Value → GG → Prop} {i f : Nat}  (hl : st.length ≤ 4) : WP X k (.invokeinterface 29 2 :: r) lv ((.int (nI f)) :: (.int (nI i)) :: st) G Q ↔ WP X k r lv ((.int (nI (21 + 5 * i + f))) :: st) (G) Q := WP_ev (E_X5_at i f) (by decide) rfl rfl hl (rfl)
theorem E_X5_isPlace {X : AmX} {G : GG} (v : Int32)  : Ev X 14 [.int v] G (some (.int (bI (inR v (nI 0) (nI 7))))) (G) := by
  refine Ev_of ?_
  show WP X 14 (am_blk 14 0) [some (.int v)] [] G _
  simp (config := { contextual := true, maxSteps := 1000000 }) (disch := first | exact am_nl_i | exact am_nl_r | exact am_nl_n | exact am_l0 | exact am_l1 | exact am_l2 | exact am_l3 | assumption | omega) only [wp_ldc, wp_sipush, wp_ldc_w, wp_lconst, wp_iadd, wp_isub, wp_imul, wp_iand, wp_ior, wp_ixor, wp_ishl, wp_ishr, wp_iushr, wp_idiv, wp_irem, wp_ineg, wp_i2b, wp_i2s, wp_i2c, wp_i2l, wp_ladd, wp_lmul, wp_lcmp, wp_dup_i, wp_dup_r, wp_dup2, wp_pop, wp_getfield, wp_putfield, wp_getstatic, wp_iaload, wp_baload, wp_aaload, wp_iastore, wp_arraylength, wp_goto, wp_fall, wp_ieq, wp_ine, wp_ilt, wp_ige, wp_igt, wp_ile, wp_ceq, wp_cne, wp_clt, wp_cge, wp_cgt, wp_cle, wp_sw, wp_ret0, wp_ret1z, wp_ret1o, wp_ret1, wp_ret2, wp_ret3, wp_ret4, wp_ret5, wp_return, wp_min, wp_max, wp_abs, am_ex, gset_eq, gset_ne, upd_eq, upd_ne, gset_gset, am_ci_1, am_ci_6, am_toList_some, am_toList_none, true_implies, false_implies, and_self, and_true, true_and, not_true_eq_false, not_false_eq_true, imp_self, implies_true, Classical.not_not, if_true, if_false, false_and, and_false, or_false, false_or, true_or, or_true, Nat.reduceAdd, Nat.reduceMul, Nat.reduceSub, Nat.reduceLT, Nat.reduceLeDiff, Nat.reduceEqDiff, Nat.reduceBneDiff, Nat.add_zero, Nat.zero_add, reduceCtorEq, wil0, wal0, wis0, wic0, wil1, wal1, wis1, wic1, wil2, wll2, wal2, wis2, was2, wls2, wic2, wil3, wis3, wic3, wic3m, wic3s, wil4, wis4, wic4, wil5, wis5, wic5, wic5m, wil6, wll6, wal6, wis6, was6, wls6, wic6, wil7, wal7, wis7, was7, wic7, wil8, wis8, wic8, wil9, wis9, wic9, wil10, wis10, wic10, am_nI_inj, am_nI_lt, am_nI_le, nI_add, pk_mul, am_nI_sub, am_add_m1, am_gfs, am_pfs, am_alds, am_asts, am_lens, bs14, am_B14_0, C_X5_within, wp_ret1b]
theorem C_X5_isPlace {X : AmX} {G : GG} {k : Nat} {r : List Instr} {lv : LV} {st : List Value} {Q : Option Value → GG → Prop} {v : Int32}  (hl : st.length ≤ 4) : WP X k (.invokeinterface 14 1 :: r) lv ((.int v) :: st) G Q ↔ WP X k r lv ((.int (bI (inR v (nI 0) (nI 7)))) :: st) (G) Q := WP_ev (E_X5_isPlace v) (by decide) rfl rfl hl (rfl)
theorem E_X5_isPrize {X : AmX} {G : GG} (v : Int32)  : Ev X 16 [.int v] G (some (.int (bI (inR v (nI 0) (nI 9999))))) (G) := by
  refine Ev_of ?_
  show WP X 16 (am_blk 16 0) [some (.int v)] [] G _
  simp (config := { contextual := true, maxSteps := 1000000 }) (disch := first | exact am_nl_i | exact am_nl_r | exact am_nl_n | exact am_l0 | exact am_l1 | exact am_l2 | exact am_l3 | assumption | omega) only [wp_ldc, wp_sipush, wp_ldc_w, wp_lconst, wp_iadd, wp_isub, wp_imul, wp_iand, wp_ior, wp_ixor, wp_ishl, wp_ishr, wp_iushr, wp_idiv, wp_irem, wp_ineg, wp_i2b, wp_i2s, wp_i2c, wp_i2l, wp_ladd, wp_lmul, wp_lcmp, wp_dup_i, wp_dup_r, wp_dup2, wp_pop, wp_getfield, wp_putfield, wp_getstatic, wp_iaload, wp_baload, wp_aaload, wp_iastore, wp_arraylength, wp_goto, wp_fall, wp_ieq, wp_ine, wp_ilt, wp_ige, wp_igt, wp_ile, wp_ceq, wp_cne, wp_clt, wp_cge, wp_cgt, wp_cle, wp_sw, wp_ret0, wp_ret1z, wp_ret1o, wp_ret1, wp_ret2, wp_ret3, wp_ret4, wp_ret5, wp_return, wp_min, wp_max, wp_abs, am_ex, gset_eq, gset_ne, upd_eq, upd_ne, gset_gset, am_ci_1, am_ci_6, am_toList_some, am_toList_none, true_implies, false_implies, and_self, and_true, true_and, not_true_eq_false, not_false_eq_true, imp_self, implies_true, Classical.not_not, if_true, if_false, false_and, and_false, or_false, false_or, true_or, or_true, Nat.reduceAdd, Nat.reduceMul, Nat.reduceSub, Nat.reduceLT, Nat.reduceLeDiff, Nat.reduceEqDiff, Nat.reduceBneDiff, Nat.add_zero, Nat.zero_add, reduceCtorEq, wil0, wal0, wis0, wic0, wil1, wal1, wis1, wic1, wil2, wll2, wal2, wis2, was2, wls2, wic2, wil3, wis3, wic3, wic3m, wic3s, wil4, wis4, wic4, wil5, wis5, wic5, wic5m, wil6, wll6, wal6, wis6, was6, wls6, wic6, wil7, wal7, wis7, was7, wic7, wil8, wis8, wic8, wil9, wis9, wic9, wil10, wis10, wic10, am_nI_inj, am_nI_lt, am_nI_le, nI_add, pk_mul, am_nI_sub, am_add_m1, am_gfs, am_pfs, am_alds, am_asts, am_lens, bs16, am_B16_0, C_X5_within, wp_ret1b]
theorem C_X5_isPrize {X : AmX} {G : GG} {k : Nat} {r : List Instr} {lv : LV} {st : List Value} {Q : Option Value → GG → Prop} {v : Int32}  (hl : st.length ≤ 4) : WP X k (.invokeinterface 16 1 :: r) lv ((.int v) :: st) G Q ↔ WP X k r lv ((.int (bI (inR v (nI 0) (nI 9999)))) :: st) (G) Q := WP_ev (E_X5_isPrize v) (by decide) rfl rfl hl (rfl)
theorem E_X5_isKind {X : AmX} {G : GG} (v : Int32)  : Ev X 41 [.int v] G (some (.int (bI (inR v (nI 0) (nI 6))))) (G) := by
  refine Ev_of ?_
  show WP X 41 (am_blk 41 0) [some (.int v)] [] G _
  simp (config := { contextual := true, maxSteps := 1000000 }) (disch := first | exact am_nl_i | exact am_nl_r | exact am_nl_n | exact am_l0 | exact am_l1 | exact am_l2 | exact am_l3 | assumption | omega) only [wp_ldc, wp_sipush, wp_ldc_w, wp_lconst, wp_iadd, wp_isub, wp_imul, wp_iand, wp_ior, wp_ixor, wp_ishl, wp_ishr, wp_iushr, wp_idiv, wp_irem, wp_ineg, wp_i2b, wp_i2s, wp_i2c, wp_i2l, wp_ladd, wp_lmul, wp_lcmp, wp_dup_i, wp_dup_r, wp_dup2, wp_pop, wp_getfield, wp_putfield, wp_getstatic, wp_iaload, wp_baload, wp_aaload, wp_iastore, wp_arraylength, wp_goto, wp_fall, wp_ieq, wp_ine, wp_ilt, wp_ige, wp_igt, wp_ile, wp_ceq, wp_cne, wp_clt, wp_cge, wp_cgt, wp_cle, wp_sw, wp_ret0, wp_ret1z, wp_ret1o, wp_ret1, wp_ret2, wp_ret3, wp_ret4, wp_ret5, wp_return, wp_min, wp_max, wp_abs, am_ex, gset_eq, gset_ne, upd_eq, upd_ne, gset_gset, am_ci_1, am_ci_6, am_toList_some, am_toList_none, true_implies, false_implies, and_self, and_true, true_and, not_true_eq_false, not_false_eq_true, imp_self, implies_true, Classical.not_not, if_true, if_false, false_and, and_false, or_false, false_or, true_or, or_true, Nat.reduceAdd, Nat.reduceMul, Nat.reduceSub, Nat.reduceLT, Nat.reduceLeDiff, Nat.reduceEqDiff, Nat.reduceBneDiff, Nat.add_zero, Nat.zero_add, reduceCtorEq, wil0, wal0, wis0, wic0, wil1, wal1, wis1, wic1, wil2, wll2, wal2, wis2, was2, wls2, wic2, wil3, wis3, wic3, wic3m, wic3s, wil4, wis4, wic4, wil5, wis5, wic5, wic5m, wil6, wll6, wal6, wis6, was6, wls6, wic6, wil7, wal7, wis7, was7, wic7, wil8, wis8, wic8, wil9, wis9, wic9, wil10, wis10, wic10, am_nI_inj, am_nI_lt, am_nI_le, nI_add, pk_mul, am_nI_sub, am_add_m1, am_gfs, am_pfs, am_alds, am_asts, am_lens, bs41, am_B41_0, C_X5_within, wp_ret1b]
theorem C_X5_isKind {X : AmX} {G : GG} {k : Nat} {r : List Instr} {lv : LV} {st : List Value} {Q : Option Value → GG → Prop} {v : Int32}  (hl : st.length ≤ 4) : WP X k (.invokeinterface 41 1 :: r) lv ((.int v) :: st) G Q ↔ WP X k r lv ((.int (bI (inR v (nI 0) (nI 6)))) :: st) (G) Q := WP_ev (E_X5_isKind v) (by decide) rfl rfl hl (rfl)
theorem E_X5_isAhead {X : AmX} {G : GG} (v : Int32)  : Ev X 83 [.int v] G (some (.int (bI (inR v (nI 0) (nI 100))))) (G) := by
  refine Ev_of ?_
  show WP X 83 (am_blk 83 0) [some (.int v)] [] G _
  simp (config := { contextual := true, maxSteps := 1000000 }) (disch := first | exact am_nl_i | exact am_nl_r | exact am_nl_n | exact am_l0 | exact am_l1 | exact am_l2 | exact am_l3 | assumption | omega) only [wp_ldc, wp_sipush, wp_ldc_w, wp_lconst, wp_iadd, wp_isub, wp_imul, wp_iand, wp_ior, wp_ixor, wp_ishl, wp_ishr, wp_iushr, wp_idiv, wp_irem, wp_ineg, wp_i2b, wp_i2s, wp_i2c, wp_i2l, wp_ladd, wp_lmul, wp_lcmp, wp_dup_i, wp_dup_r, wp_dup2, wp_pop, wp_getfield, wp_putfield, wp_getstatic, wp_iaload, wp_baload, wp_aaload, wp_iastore, wp_arraylength, wp_goto, wp_fall, wp_ieq, wp_ine, wp_ilt, wp_ige, wp_igt, wp_ile, wp_ceq, wp_cne, wp_clt, wp_cge, wp_cgt, wp_cle, wp_sw, wp_ret0, wp_ret1z, wp_ret1o, wp_ret1, wp_ret2, wp_ret3, wp_ret4, wp_ret5, wp_return, wp_min, wp_max, wp_abs, am_ex, gset_eq, gset_ne, upd_eq, upd_ne, gset_gset, am_ci_1, am_ci_6, am_toList_some, am_toList_none, true_implies, false_implies, and_self, and_true, true_and, not_true_eq_false, not_false_eq_true, imp_self, implies_true, Classical.not_not, if_true, if_false, false_and, and_false, or_false, false_or, true_or, or_true, Nat.reduceAdd, Nat.reduceMul, Nat.reduceSub, Nat.reduceLT, Nat.reduceLeDiff, Nat.reduceEqDiff, Nat.reduceBneDiff, Nat.add_zero, Nat.zero_add, reduceCtorEq, wil0, wal0, wis0, wic0, wil1, wal1, wis1, wic1, wil2, wll2, wal2, wis2, was2, wls2, wic2, wil3, wis3, wic3, wic3m, wic3s, wil4, wis4, wic4, wil5, wis5, wic5, wic5m, wil6, wll6, wal6, wis6, was6, wls6, wic6, wil7, wal7, wis7, was7, wic7, wil8, wis8, wic8, wil9, wis9, wic9, wil10, wis10, wic10, am_nI_inj, am_nI_lt, am_nI_le, nI_add, pk_mul, am_nI_sub, am_add_m1, am_gfs, am_pfs, am_alds, am_asts, am_lens, bs83, am_B83_0, C_X5_within, wp_ret1b]
theorem C_X5_isAhead {X : AmX} {G : GG} {k : Nat} {r : List Instr} {lv : LV} {st : List Value} {Q : Option Value → GG → Prop} {v : Int32}  (hl : st.length ≤ 4) : WP X k (.invokeinterface 83 1 :: r) lv ((.int v) :: st) G Q ↔ WP X k r lv ((.int (bI (inR v (nI 0) (nI 100)))) :: st) (G) Q := WP_ev (E_X5_isAhead v) (by decide) rfl rfl hl (rfl)
theorem E_X5_isSpot {X : AmX} {G : GG} (v : Int32)  : Ev X 182 [.int v] G (some (.int (bI (inR v (nI 0) (nI 9))))) (G) := by
  refine Ev_of ?_
  show WP X 182 (am_blk 182 0) [some (.int v)] [] G _
  simp (config := { contextual := true, maxSteps := 1000000 }) (disch := first | exact am_nl_i | exact am_nl_r | exact am_nl_n | exact am_l0 | exact am_l1 | exact am_l2 | exact am_l3 | assumption | omega) only [wp_ldc, wp_sipush, wp_ldc_w, wp_lconst, wp_iadd, wp_isub, wp_imul, wp_iand, wp_ior, wp_ixor, wp_ishl, wp_ishr, wp_iushr, wp_idiv, wp_irem, wp_ineg, wp_i2b, wp_i2s, wp_i2c, wp_i2l, wp_ladd, wp_lmul, wp_lcmp, wp_dup_i, wp_dup_r, wp_dup2, wp_pop, wp_getfield, wp_putfield, wp_getstatic, wp_iaload, wp_baload, wp_aaload, wp_iastore, wp_arraylength, wp_goto, wp_fall, wp_ieq, wp_ine, wp_ilt, wp_ige, wp_igt, wp_ile, wp_ceq, wp_cne, wp_clt, wp_cge, wp_cgt, wp_cle, wp_sw, wp_ret0, wp_ret1z, wp_ret1o, wp_ret1, wp_ret2, wp_ret3, wp_ret4, wp_ret5, wp_return, wp_min, wp_max, wp_abs, am_ex, gset_eq, gset_ne, upd_eq, upd_ne, gset_gset, am_ci_1, am_ci_6, am_toList_some, am_toList_none, true_implies, false_implies, and_self, and_true, true_and, not_true_eq_false, not_false_eq_true, imp_self, implies_true, Classical.not_not, if_true, if_false, false_and, and_false, or_false, false_or, true_or, or_true, Nat.reduceAdd, Nat.reduceMul, Nat.reduceSub, Nat.reduceLT, Nat.reduceLeDiff, Nat.reduceEqDiff, Nat.reduceBneDiff, Nat.add_zero, Nat.zero_add, reduceCtorEq, wil0, wal0, wis0, wic0, wil1, wal1, wis1, wic1, wil2, wll2, wal2, wis2, was2, wls2, wic2, wil3, wis3, wic3, wic3m, wic3s, wil4, wis4, wic4, wil5, wis5, wic5, wic5m, wil6, wll6, wal6, wis6, was6, wls6, wic6, wil7, wal7, wis7, was7, wic7, wil8, wis8, wic8, wil9, wis9, wic9, wil10, wis10, wic10, am_nI_inj, am_nI_lt, am_nI_le, nI_add, pk_mul, am_nI_sub, am_add_m1, am_gfs, am_pfs, am_alds, am_asts, am_lens, bs182, am_B182_0, C_X5_within, wp_ret1b]
theorem C_X5_isSpot {X : AmX} {G : GG} {k : Nat} {r : List Instr} {lv : LV} {st : List Value} {Q : Option Value → GG → Prop} {v : Int32}  (hl : st.length ≤ 4) : WP X k (.invokeinterface 182 1 :: r) lv ((.int v) :: st) G Q ↔ WP X k r lv ((.int (bI (inR v (nI 0) (nI 9)))) :: st) (G) Q := WP_ev (E_X5_isSpot v) (by decide) rfl rfl hl (rfl)
theorem E_X5_isSheet {X : AmX} {G : GG} (v : Int32)  : Ev X 134 [.int v] G (some (.int (bI (inR v (nI 0) (nI 3))))) (G) := by
  refine Ev_of ?_
  show WP X 134 (am_blk 134 0) [some (.int v)] [] G _
  simp (config := { contextual := true, maxSteps := 1000000 }) (disch := first | exact am_nl_i | exact am_nl_r | exact am_nl_n | exact am_l0 | exact am_l1 | exact am_l2 | exact am_l3 | assumption | omega) only [wp_ldc, wp_sipush, wp_ldc_w, wp_lconst, wp_iadd, wp_isub, wp_imul, wp_iand, wp_ior, wp_ixor, wp_ishl, wp_ishr, wp_iushr, wp_idiv, wp_irem, wp_ineg, wp_i2b, wp_i2s, wp_i2c, wp_i2l, wp_ladd, wp_lmul, wp_lcmp, wp_dup_i, wp_dup_r, wp_dup2, wp_pop, wp_getfield, wp_putfield, wp_getstatic, wp_iaload, wp_baload, wp_aaload, wp_iastore, wp_arraylength, wp_goto, wp_fall, wp_ieq, wp_ine, wp_ilt, wp_ige, wp_igt, wp_ile, wp_ceq, wp_cne, wp_clt, wp_cge, wp_cgt, wp_cle, wp_sw, wp_ret0, wp_ret1z, wp_ret1o, wp_ret1, wp_ret2, wp_ret3, wp_ret4, wp_ret5, wp_return, wp_min, wp_max, wp_abs, am_ex, gset_eq, gset_ne, upd_eq, upd_ne, gset_gset, am_ci_1, am_ci_6, am_toList_some, am_toList_none, true_implies, false_implies, and_self, and_true, true_and, not_true_eq_false, not_false_eq_true, imp_self, implies_true, Classical.not_not, if_true, if_false, false_and, and_false, or_false, false_or, true_or, or_true, Nat.reduceAdd, Nat.reduceMul, Nat.reduceSub, Nat.reduceLT, Nat.reduceLeDiff, Nat.reduceEqDiff, Nat.reduceBneDiff, Nat.add_zero, Nat.zero_add, reduceCtorEq, wil0, wal0, wis0, wic0, wil1, wal1, wis1, wic1, wil2, wll2, wal2, wis2, was2, wls2, wic2, wil3, wis3, wic3, wic3m, wic3s, wil4, wis4, wic4, wil5, wis5, wic5, wic5m, wil6, wll6, wal6, wis6, was6, wls6, wic6, wil7, wal7, wis7, was7, wic7, wil8, wis8, wic8, wil9, wis9, wic9, wil10, wis10, wic10, am_nI_inj, am_nI_lt, am_nI_le, nI_add, pk_mul, am_nI_sub, am_add_m1, am_gfs, am_pfs, am_alds, am_asts, am_lens, bs134, am_B134_0, C_X5_within, wp_ret1b]
theorem C_X5_isSheet {X : AmX} {G : GG} {k : Nat} {r : List Instr} {lv : LV} {st : List Value} {Q : Option Value → GG → Prop} {v : Int32}  (hl : st.length ≤ 4) : WP X k (.invokeinterface 134 1 :: r) lv ((.int v) :: st) G Q ↔ WP X k r lv ((.int (bI (inR v (nI 0) (nI 3)))) :: st) (G) Q := WP_ev (E_X5_isSheet v) (by decide) rfl rfl hl (rfl)
theorem E_X5_isPerson {X : AmX} {G : GG} (v : Int32)  : Ev X 50 [.ref 58, .int v] G (some (.int (bI (inR v (nI 0) (G 59 1 - nI 1))))) (G) := by
  refine Ev_of ?_
  show WP X 50 (am_blk 50 0) [some (.ref 58), some (.int v)] [] G _
  simp (config := { contextual := true, maxSteps := 1000000 }) (disch := first | exact am_nl_i | exact am_nl_r | exact am_nl_n | exact am_l0 | exact am_l1 | exact am_l2 | exact am_l3 | assumption | omega) only [wp_ldc, wp_sipush, wp_ldc_w, wp_lconst, wp_iadd, wp_isub, wp_imul, wp_iand, wp_ior, wp_ixor, wp_ishl, wp_ishr, wp_iushr, wp_idiv, wp_irem, wp_ineg, wp_i2b, wp_i2s, wp_i2c, wp_i2l, wp_ladd, wp_lmul, wp_lcmp, wp_dup_i, wp_dup_r, wp_dup2, wp_pop, wp_getfield, wp_putfield, wp_getstatic, wp_iaload, wp_baload, wp_aaload, wp_iastore, wp_arraylength, wp_goto, wp_fall, wp_ieq, wp_ine, wp_ilt, wp_ige, wp_igt, wp_ile, wp_ceq, wp_cne, wp_clt, wp_cge, wp_cgt, wp_cle, wp_sw, wp_ret0, wp_ret1z, wp_ret1o, wp_ret1, wp_ret2, wp_ret3, wp_ret4, wp_ret5, wp_return, wp_min, wp_max, wp_abs, am_ex, gset_eq, gset_ne, upd_eq, upd_ne, gset_gset, am_ci_1, am_ci_6, am_toList_some, am_toList_none, true_implies, false_implies, and_self, and_true, true_and, not_true_eq_false, not_false_eq_true, imp_self, implies_true, Classical.not_not, if_true, if_false, false_and, and_false, or_false, false_or, true_or, or_true, Nat.reduceAdd, Nat.reduceMul, Nat.reduceSub, Nat.reduceLT, Nat.reduceLeDiff, Nat.reduceEqDiff, Nat.reduceBneDiff, Nat.add_zero, Nat.zero_add, reduceCtorEq, wil0, wal0, wis0, wic0, wil1, wal1, wis1, wic1, wil2, wll2, wal2, wis2, was2, wls2, wic2, wil3, wis3, wic3, wic3m, wic3s, wil4, wis4, wic4, wil5, wis5, wic5, wic5m, wil6, wll6, wal6, wis6, was6, wls6, wic6, wil7, wal7, wis7, was7, wic7, wil8, wis8, wic8, wil9, wis9, wic9, wil10, wis10, wic10, am_nI_inj, am_nI_lt, am_nI_le, nI_add, pk_mul, am_nI_sub, am_add_m1, am_gfs, am_pfs, am_alds, am_asts, am_lens, bs50, am_B50_0, C_X5_within, wp_ret1b]
theorem C_X5_isPerson {X : AmX} {G : GG} {k : Nat} {r : List Instr} {lv : LV} {st : List Value} {Q : Option Value → GG → Prop} {v : Int32}  (hl : st.length ≤ 4) : WP X k (.invokeinterface 50 2 :: r) lv ((.int v) :: (.ref 58) :: st) G Q ↔ WP X k r lv ((.int (bI (inR v (nI 0) (G 59 1 - nI 1)))) :: st) (G) Q := WP_ev (E_X5_isPerson v) (by decide) rfl rfl hl (rfl)
theorem E_X4_isKind {X : AmX} {G : GG} (v : Int32)  : Ev X 38 [.int v] G (some (.int (bI (inR v (nI 0) (nI 6))))) (G) := by
  refine Ev_of ?_
  show WP X 38 (am_blk 38 0) [some (.int v)] [] G _
  simp (config := { contextual := true, maxSteps := 1000000 }) (disch := first | exact am_nl_i | exact am_nl_r | exact am_nl_n | exact am_l0 | exact am_l1 | exact am_l2 | exact am_l3 | assumption | omega) only [wp_ldc, wp_sipush, wp_ldc_w, wp_lconst, wp_iadd, wp_isub, wp_imul, wp_iand, wp_ior, wp_ixor, wp_ishl, wp_ishr, wp_iushr, wp_idiv, wp_irem, wp_ineg, wp_i2b, wp_i2s, wp_i2c, wp_i2l, wp_ladd, wp_lmul, wp_lcmp, wp_dup_i, wp_dup_r, wp_dup2, wp_pop, wp_getfield, wp_putfield, wp_getstatic, wp_iaload, wp_baload, wp_aaload, wp_iastore, wp_arraylength, wp_goto, wp_fall, wp_ieq, wp_ine, wp_ilt, wp_ige, wp_igt, wp_ile, wp_ceq, wp_cne, wp_clt, wp_cge, wp_cgt, wp_cle, wp_sw, wp_ret0, wp_ret1z, wp_ret1o, wp_ret1, wp_ret2, wp_ret3, wp_ret4, wp_ret5, wp_return, wp_min, wp_max, wp_abs, am_ex, gset_eq, gset_ne, upd_eq, upd_ne, gset_gset, am_ci_1, am_ci_6, am_toList_some, am_toList_none, true_implies, false_implies, and_self, and_true, true_and, not_true_eq_false, not_false_eq_true, imp_self, implies_true, Classical.not_not, if_true, if_false, false_and, and_false, or_false, false_or, true_or, or_true, Nat.reduceAdd, Nat.reduceMul, Nat.reduceSub, Nat.reduceLT, Nat.reduceLeDiff, Nat.reduceEqDiff, Nat.reduceBneDiff, Nat.add_zero, Nat.zero_add, reduceCtorEq, wil0, wal0, wis0, wic0, wil1, wal1, wis1, wic1, wil2, wll2, wal2, wis2, was2, wls2, wic2, wil3, wis3, wic3, wic3m, wic3s, wil4, wis4, wic4, wil5, wis5, wic5, wic5m, wil6, wll6, wal6, wis6, was6, wls6, wic6, wil7, wal7, wis7, was7, wic7, wil8, wis8, wic8, wil9, wis9, wic9, wil10, wis10, wic10, am_nI_inj, am_nI_lt, am_nI_le, nI_add, pk_mul, am_nI_sub, am_add_m1, am_gfs, am_pfs, am_alds, am_asts, am_lens, bs38, am_B38_0, C_X4_isWithin, wp_ret1b]
theorem C_X4_isKind {X : AmX} {G : GG} {k : Nat} {r : List Instr} {lv : LV} {st : List Value} {Q : Option Value → GG → Prop} {v : Int32}  (hl : st.length ≤ 4) : WP X k (.invokeinterface 38 1 :: r) lv ((.int v) :: st) G Q ↔ WP X k r lv ((.int (bI (inR v (nI 0) (nI 6)))) :: st) (G) Q := WP_ev (E_X4_isKind v) (by decide) rfl rfl hl (rfl)
theorem E_X4_isSpot {X : AmX} {G : GG} (v : Int32)  : Ev X 180 [.int v] G (some (.int (bI (inR v (nI 0) (nI 9))))) (G) := by
  refine Ev_of ?_
  show WP X 180 (am_blk 180 0) [some (.int v)] [] G _
  simp (config := { contextual := true, maxSteps := 1000000 }) (disch := first | exact am_nl_i | exact am_nl_r | exact am_nl_n | exact am_l0 | exact am_l1 | exact am_l2 | exact am_l3 | assumption | omega) only [wp_ldc, wp_sipush, wp_ldc_w, wp_lconst, wp_iadd, wp_isub, wp_imul, wp_iand, wp_ior, wp_ixor, wp_ishl, wp_ishr, wp_iushr, wp_idiv, wp_irem, wp_ineg, wp_i2b, wp_i2s, wp_i2c, wp_i2l, wp_ladd, wp_lmul, wp_lcmp, wp_dup_i, wp_dup_r, wp_dup2, wp_pop, wp_getfield, wp_putfield, wp_getstatic, wp_iaload, wp_baload, wp_aaload, wp_iastore, wp_arraylength, wp_goto, wp_fall, wp_ieq, wp_ine, wp_ilt, wp_ige, wp_igt, wp_ile, wp_ceq, wp_cne, wp_clt, wp_cge, wp_cgt, wp_cle, wp_sw, wp_ret0, wp_ret1z, wp_ret1o, wp_ret1, wp_ret2, wp_ret3, wp_ret4, wp_ret5, wp_return, wp_min, wp_max, wp_abs, am_ex, gset_eq, gset_ne, upd_eq, upd_ne, gset_gset, am_ci_1, am_ci_6, am_toList_some, am_toList_none, true_implies, false_implies, and_self, and_true, true_and, not_true_eq_false, not_false_eq_true, imp_self, implies_true, Classical.not_not, if_true, if_false, false_and, and_false, or_false, false_or, true_or, or_true, Nat.reduceAdd, Nat.reduceMul, Nat.reduceSub, Nat.reduceLT, Nat.reduceLeDiff, Nat.reduceEqDiff, Nat.reduceBneDiff, Nat.add_zero, Nat.zero_add, reduceCtorEq, wil0, wal0, wis0, wic0, wil1, wal1, wis1, wic1, wil2, wll2, wal2, wis2, was2, wls2, wic2, wil3, wis3, wic3, wic3m, wic3s, wil4, wis4, wic4, wil5, wis5, wic5, wic5m, wil6, wll6, wal6, wis6, was6, wls6, wic6, wil7, wal7, wis7, was7, wic7, wil8, wis8, wic8, wil9, wis9, wic9, wil10, wis10, wic10, am_nI_inj, am_nI_lt, am_nI_le, nI_add, pk_mul, am_nI_sub, am_add_m1, am_gfs, am_pfs, am_alds, am_asts, am_lens, bs180, am_B180_0, C_X4_isWithin, wp_ret1b]
theorem C_X4_isSpot {X : AmX} {G : GG} {k : Nat} {r : List Instr} {lv : LV} {st : List Value} {Q : Option Value → GG → Prop} {v : Int32}  (hl : st.length ≤ 4) : WP X k (.invokeinterface 180 1 :: r) lv ((.int v) :: st) G Q ↔ WP X k r lv ((.int (bI (inR v (nI 0) (nI 9)))) :: st) (G) Q := WP_ev (E_X4_isSpot v) (by decide) rfl rfl hl (rfl)
theorem E_X4_isSheet {X : AmX} {G : GG} (v : Int32)  : Ev X 129 [.int v] G (some (.int (bI (inR v (nI 0) (nI 3))))) (G) := by
  refine Ev_of ?_
  show WP X 129 (am_blk 129 0) [some (.int v)] [] G _
  simp (config := { contextual := true, maxSteps := 1000000 }) (disch := first | exact am_nl_i | exact am_nl_r | exact am_nl_n | exact am_l0 | exact am_l1 | exact am_l2 | exact am_l3 | assumption | omega) only [wp_ldc, wp_sipush, wp_ldc_w, wp_lconst, wp_iadd, wp_isub, wp_imul, wp_iand, wp_ior, wp_ixor, wp_ishl, wp_ishr, wp_iushr, wp_idiv, wp_irem, wp_ineg, wp_i2b, wp_i2s, wp_i2c, wp_i2l, wp_ladd, wp_lmul, wp_lcmp, wp_dup_i, wp_dup_r, wp_dup2, wp_pop, wp_getfield, wp_putfield, wp_getstatic, wp_iaload, wp_baload, wp_aaload, wp_iastore, wp_arraylength, wp_goto, wp_fall, wp_ieq, wp_ine, wp_ilt, wp_ige, wp_igt, wp_ile, wp_ceq, wp_cne, wp_clt, wp_cge, wp_cgt, wp_cle, wp_sw, wp_ret0, wp_ret1z, wp_ret1o, wp_ret1, wp_ret2, wp_ret3, wp_ret4, wp_ret5, wp_return, wp_min, wp_max, wp_abs, am_ex, gset_eq, gset_ne, upd_eq, upd_ne, gset_gset, am_ci_1, am_ci_6, am_toList_some, am_toList_none, true_implies, false_implies, and_self, and_true, true_and, not_true_eq_false, not_false_eq_true, imp_self, implies_true, Classical.not_not, if_true, if_false, false_and, and_false, or_false, false_or, true_or, or_true, Nat.reduceAdd, Nat.reduceMul, Nat.reduceSub, Nat.reduceLT, Nat.reduceLeDiff, Nat.reduceEqDiff, Nat.reduceBneDiff, Nat.add_zero, Nat.zero_add, reduceCtorEq, wil0, wal0, wis0, wic0, wil1, wal1, wis1, wic1, wil2, wll2, wal2, wis2, was2, wls2, wic2, wil3, wis3, wic3, wic3m, wic3s, wil4, wis4, wic4, wil5, wis5, wic5, wic5m, wil6, wll6, wal6, wis6, was6, wls6, wic6, wil7, wal7, wis7, was7, wic7, wil8, wis8, wic8, wil9, wis9, wic9, wil10, wis10, wic10, am_nI_inj, am_nI_lt, am_nI_le, nI_add, pk_mul, am_nI_sub, am_add_m1, am_gfs, am_pfs, am_alds, am_asts, am_lens, bs129, am_B129_0, C_X4_isWithin, wp_ret1b]
theorem C_X4_isSheet {X : AmX} {G : GG} {k : Nat} {r : List Instr} {lv : LV} {st : List Value} {Q : Option Value → GG → Prop} {v : Int32}  (hl : st.length ≤ 4) : WP X k (.invokeinterface 129 1 :: r) lv ((.int v) :: st) G Q ↔ WP X k r lv ((.int (bI (inR v (nI 0) (nI 3)))) :: st) (G) Q := WP_ev (E_X4_isSheet v) (by decide) rfl rfl hl (rfl)
theorem E_X4_isThere {X : AmX} {G : GG} (v : Int32)  : Ev X 44 [.ref 0, .int v] G (some (.int (bI (inR v (nI 0) (G 1 7 - nI 1))))) (G) := by
  refine Ev_of ?_
  show WP X 44 (am_blk 44 0) [some (.ref 0), some (.int v)] [] G _
  have hb : TB 1 := tb1
  simp (config := { contextual := true, maxSteps := 1000000 }) (disch := first | exact am_nl_i | exact am_nl_r | exact am_nl_n | exact am_l0 | exact am_l1 | exact am_l2 | exact am_l3 | assumption | omega) only [wp_ldc, wp_sipush, wp_ldc_w, wp_lconst, wp_iadd, wp_isub, wp_imul, wp_iand, wp_ior, wp_ixor, wp_ishl, wp_ishr, wp_iushr, wp_idiv, wp_irem, wp_ineg, wp_i2b, wp_i2s, wp_i2c, wp_i2l, wp_ladd, wp_lmul, wp_lcmp, wp_dup_i, wp_dup_r, wp_dup2, wp_pop, wp_getfield, wp_putfield, wp_getstatic, wp_iaload, wp_baload, wp_aaload, wp_iastore, wp_arraylength, wp_goto, wp_fall, wp_ieq, wp_ine, wp_ilt, wp_ige, wp_igt, wp_ile, wp_ceq, wp_cne, wp_clt, wp_cge, wp_cgt, wp_cle, wp_sw, wp_ret0, wp_ret1z, wp_ret1o, wp_ret1, wp_ret2, wp_ret3, wp_ret4, wp_ret5, wp_return, wp_min, wp_max, wp_abs, am_ex, gset_eq, gset_ne, upd_eq, upd_ne, gset_gset, am_ci_1, am_ci_6, am_toList_some, am_toList_none, true_implies, false_implies, and_self, and_true, true_and, not_true_eq_false, not_false_eq_true, imp_self, implies_true, Classical.not_not, if_true, if_false, false_and, and_false, or_false, false_or, true_or, or_true, Nat.reduceAdd, Nat.reduceMul, Nat.reduceSub, Nat.reduceLT, Nat.reduceLeDiff, Nat.reduceEqDiff, Nat.reduceBneDiff, Nat.add_zero, Nat.zero_add, reduceCtorEq, wil0, wal0, wis0, wic0, wil1, wal1, wis1, wic1, wil2, wll2, wal2, wis2, was2, wls2, wic2, wil3, wis3, wic3, wic3m, wic3s, wil4, wis4, wic4, wil5, wis5, wic5, wic5m, wil6, wll6, wal6, wis6, was6, wls6, wic6, wil7, wal7, wis7, was7, wic7, wil8, wis8, wic8, wil9, wis9, wic9, wil10, wis10, wic10, am_nI_inj, am_nI_lt, am_nI_le, nI_add, pk_mul, am_nI_sub, am_add_m1, am_gfs, am_pfs, am_alds, am_asts, am_lens, tgf0, tgf1, tgf2, tgf3, tgf4, tgf5, tgf6, tgf7, tgf8, tgf9, tgf10, tgf11, tgf12, tpf7, tpf8, tpf9, tal0, tas0, tln0, tal1, tas1, tln1, tal2, tas2, tln2, tal3, tas3, tln3, tal4, tas4, tln4, tal5, tas5, tln5, tal6, tas6, tln6, tal7, tas7, tln7, tal8, tas8, tln8, tal9, tas9, tln9, bs44, am_B44_0, C_X4_isWithin, wp_ret1b]
theorem C_X4_isThere {X : AmX} {G : GG} {k : Nat} {r : List Instr} {lv : LV} {st : List Value} {Q : Option Value → GG → Prop} {v : Int32}  (hl : st.length ≤ 4) : WP X k (.invokeinterface 44 2 :: r) lv ((.int v) :: (.ref 0) :: st) G Q ↔ WP X k r lv ((.int (bI (inR v (nI 0) (G 1 7 - nI 1)))) :: st) (G) Q := WP_ev (E_X4_isThere v) (by decide) rfl rfl hl (rfl)
theorem E_X4_found {X : AmX} {G : GG} (f : Nat) (hf : f < 7) : Ev X 12 [.ref 0, .int (fc f)] G (some (.int (fc f))) (gset G 57 (upd (G 57) f (G 57 f + nI 1))) := by
  refine Ev_of ?_
  show WP X 12 (am_blk 12 0) [some (.ref 0), some (.int (fc f)), none] [] G _
  have h6 : decide (0 ≤ f ∧ f ≤ 6) = true := decide_eq_true (by omega)
  simp (config := { contextual := true, maxSteps := 1000000 }) (disch := first | exact am_nl_i | exact am_nl_r | exact am_nl_n | exact am_l0 | exact am_l1 | exact am_l2 | exact am_l3 | assumption | omega) only [wp_ldc, wp_sipush, wp_ldc_w, wp_lconst, wp_iadd, wp_isub, wp_imul, wp_iand, wp_ior, wp_ixor, wp_ishl, wp_ishr, wp_iushr, wp_idiv, wp_irem, wp_ineg, wp_i2b, wp_i2s, wp_i2c, wp_i2l, wp_ladd, wp_lmul, wp_lcmp, wp_dup_i, wp_dup_r, wp_dup2, wp_pop, wp_getfield, wp_putfield, wp_getstatic, wp_iaload, wp_baload, wp_aaload, wp_iastore, wp_arraylength, wp_goto, wp_fall, wp_ieq, wp_ine, wp_ilt, wp_ige, wp_igt, wp_ile, wp_ceq, wp_cne, wp_clt, wp_cge, wp_cgt, wp_cle, wp_sw, wp_ret0, wp_ret1z, wp_ret1o, wp_ret1, wp_ret2, wp_ret3, wp_ret4, wp_ret5, wp_return, wp_min, wp_max, wp_abs, am_ex, gset_eq, gset_ne, upd_eq, upd_ne, gset_gset, am_ci_1, am_ci_6, am_toList_some, am_toList_none, true_implies, false_implies, and_self, and_true, true_and, not_true_eq_false, not_false_eq_true, imp_self, implies_true, Classical.not_not, if_true, if_false, false_and, and_false, or_false, false_or, true_or, or_true, Nat.reduceAdd, Nat.reduceMul, Nat.reduceSub, Nat.reduceLT, Nat.reduceLeDiff, Nat.reduceEqDiff, Nat.reduceBneDiff, Nat.add_zero, Nat.zero_add, reduceCtorEq, wil0, wal0, wis0, wic0, wil1, wal1, wis1, wic1, wil2, wll2, wal2, wis2, was2, wls2, wic2, wil3, wis3, wic3, wic3m, wic3s, wil4, wis4, wic4, wil5, wis5, wic5, wic5m, wil6, wll6, wal6, wis6, was6, wls6, wic6, wil7, wal7, wis7, was7, wic7, wil8, wis8, wic8, wil9, wis9, wic9, wil10, wis10, wic10, am_nI_inj, am_nI_lt, am_nI_le, nI_add, pk_mul, am_nI_sub, am_add_m1, am_gfs, am_pfs, am_alds, am_asts, am_lens, bs12, am_B12_0, am_B12_25, C_X4_isWithin, fcs, fc_sub hf, inR_nI, h6, bI_t]
theorem C_X4_found {X : AmX} {G : GG} {k : Nat} {r : List Instr} {lv : LV} {st : List Value} {Q : Option Value → GG → Prop} {f : Nat} (hf : f < 7) (hl : st.length ≤ 4) : WP X k (.invokeinterface 12 2 :: r) lv ((.int (fc f)) :: (.ref 0) :: st) G Q ↔ WP X k r lv ((.int (fc f)) :: st) (gset G 57 (upd (G 57) f (G 57 f + nI 1))) Q := WP_ev (E_X4_found f hf) (by decide) rfl rfl hl (rfl)
theorem E_X5_finding {X : AmX} {G : GG} (f : Nat) (hf : f < 7) : Ev X 18 [.ref 58, .int (fc f)] G (some (.int (fc f))) (gset G 62 (upd (upd (G 62) (f + 1) (G 62 (f + 1) + nI 1)) 0 (G 62 0 + nI 1))) := by
  refine Ev_of ?_
  show WP X 18 (am_blk 18 0) [some (.ref 58), some (.int (fc f))] [] G _
  simp (config := { contextual := true, maxSteps := 1000000 }) (disch := first | exact am_nl_i | exact am_nl_r | exact am_nl_n | exact am_l0 | exact am_l1 | exact am_l2 | exact am_l3 | assumption | omega) only [wp_ldc, wp_sipush, wp_ldc_w, wp_lconst, wp_iadd, wp_isub, wp_imul, wp_iand, wp_ior, wp_ixor, wp_ishl, wp_ishr, wp_iushr, wp_idiv, wp_irem, wp_ineg, wp_i2b, wp_i2s, wp_i2c, wp_i2l, wp_ladd, wp_lmul, wp_lcmp, wp_dup_i, wp_dup_r, wp_dup2, wp_pop, wp_getfield, wp_putfield, wp_getstatic, wp_iaload, wp_baload, wp_aaload, wp_iastore, wp_arraylength, wp_goto, wp_fall, wp_ieq, wp_ine, wp_ilt, wp_ige, wp_igt, wp_ile, wp_ceq, wp_cne, wp_clt, wp_cge, wp_cgt, wp_cle, wp_sw, wp_ret0, wp_ret1z, wp_ret1o, wp_ret1, wp_ret2, wp_ret3, wp_ret4, wp_ret5, wp_return, wp_min, wp_max, wp_abs, am_ex, gset_eq, gset_ne, upd_eq, upd_ne, gset_gset, am_ci_1, am_ci_6, am_toList_some, am_toList_none, true_implies, false_implies, and_self, and_true, true_and, not_true_eq_false, not_false_eq_true, imp_self, implies_true, Classical.not_not, if_true, if_false, false_and, and_false, or_false, false_or, true_or, or_true, Nat.reduceAdd, Nat.reduceMul, Nat.reduceSub, Nat.reduceLT, Nat.reduceLeDiff, Nat.reduceEqDiff, Nat.reduceBneDiff, Nat.add_zero, Nat.zero_add, reduceCtorEq, wil0, wal0, wis0, wic0, wil1, wal1, wis1, wic1, wil2, wll2, wal2, wis2, was2, wls2, wic2, wil3, wis3, wic3, wic3m, wic3s, wil4, wis4, wic4, wil5, wis5, wic5, wic5m, wil6, wll6, wal6, wis6, was6, wls6, wic6, wil7, wal7, wis7, was7, wic7, wil8, wis8, wic8, wil9, wis9, wic9, wil10, wis10, wic10, am_nI_inj, am_nI_lt, am_nI_le, nI_add, pk_mul, am_nI_sub, am_add_m1, am_gfs, am_pfs, am_alds, am_asts, am_lens, bs18, am_B18_0, fcs, fc_sub hf]
theorem C_X5_finding {X : AmX} {G : GG} {k : Nat} {r : List Instr} {lv : LV} {st : List Value} {Q : Option Value → GG → Prop} {f : Nat} (hf : f < 7) (hl : st.length ≤ 4) : WP X k (.invokeinterface 18 2 :: r) lv ((.int (fc f)) :: (.ref 58) :: st) G Q ↔ WP X k r lv ((.int (fc f)) :: st) (gset G 62 (upd (upd (G 62) (f + 1) (G 62 (f + 1) + nI 1)) 0 (G 62 0 + nI 1))) Q := WP_ev (E_X5_finding f hf) (by decide) rfl rfl hl (rfl)
theorem E_X5_personIs {X : AmX} {G : GG} (i f : Nat) (hi : i < 8) (hf : f < 5) : Ev X 28 [.ref 58, .int (nI i), .int (nI f)] G (some (.int (G 59 (21 + 5 * i + f)))) (G) := by
  refine Ev_of ?_
  show WP X 28 (am_blk 28 0) [some (.ref 58), some (.int (nI i)), some (.int (nI f))] [] G _
  simp (config := { contextual := true, maxSteps := 1000000 }) (disch := first | exact am_nl_i | exact am_nl_r | exact am_nl_n | exact am_l0 | exact am_l1 | exact am_l2 | exact am_l3 | assumption | omega) only [wp_ldc, wp_sipush, wp_ldc_w, wp_lconst, wp_iadd, wp_isub, wp_imul, wp_iand, wp_ior, wp_ixor, wp_ishl, wp_ishr, wp_iushr, wp_idiv, wp_irem, wp_ineg, wp_i2b, wp_i2s, wp_i2c, wp_i2l, wp_ladd, wp_lmul, wp_lcmp, wp_dup_i, wp_dup_r, wp_dup2, wp_pop, wp_getfield, wp_putfield, wp_getstatic, wp_iaload, wp_baload, wp_aaload, wp_iastore, wp_arraylength, wp_goto, wp_fall, wp_ieq, wp_ine, wp_ilt, wp_ige, wp_igt, wp_ile, wp_ceq, wp_cne, wp_clt, wp_cge, wp_cgt, wp_cle, wp_sw, wp_ret0, wp_ret1z, wp_ret1o, wp_ret1, wp_ret2, wp_ret3, wp_ret4, wp_ret5, wp_return, wp_min, wp_max, wp_abs, am_ex, gset_eq, gset_ne, upd_eq, upd_ne, gset_gset, am_ci_1, am_ci_6, am_toList_some, am_toList_none, true_implies, false_implies, and_self, and_true, true_and, not_true_eq_false, not_false_eq_true, imp_self, implies_true, Classical.not_not, if_true, if_false, false_and, and_false, or_false, false_or, true_or, or_true, Nat.reduceAdd, Nat.reduceMul, Nat.reduceSub, Nat.reduceLT, Nat.reduceLeDiff, Nat.reduceEqDiff, Nat.reduceBneDiff, Nat.add_zero, Nat.zero_add, reduceCtorEq, wil0, wal0, wis0, wic0, wil1, wal1, wis1, wic1, wil2, wll2, wal2, wis2, was2, wls2, wic2, wil3, wis3, wic3, wic3m, wic3s, wil4, wis4, wic4, wil5, wis5, wic5, wic5m, wil6, wll6, wal6, wis6, was6, wls6, wic6, wil7, wal7, wis7, was7, wic7, wil8, wis8, wic8, wil9, wis9, wic9, wil10, wis10, wic10, am_nI_inj, am_nI_lt, am_nI_le, nI_add, pk_mul, am_nI_sub, am_add_m1, am_gfs, am_pfs, am_alds, am_asts, am_lens, bs28, am_B28_0, C_X5_at]
theorem C_X5_personIs {X : AmX} {G : GG} {k : Nat} {r : List Instr} {lv : LV} {st : List Value} {Q : Option Value → GG → Prop} {i f : Nat} (hi : i < 8) (hf : f < 5) (hl : st.length ≤ 4) : WP X k (.invokeinterface 28 3 :: r) lv ((.int (nI f)) :: (.int (nI i)) :: (.ref 58) :: st) G Q ↔ WP X k r lv ((.int (G 59 (21 + 5 * i + f))) :: st) (G) Q := WP_ev (E_X5_personIs i f hi hf) (by decide) rfl rfl hl (rfl)
theorem E_X5_become {X : AmX} {G : GG} (i : Nat) (v : Int32) (hi : i < 61) : Ev X 17 [.ref 58, .int (nI i), .int v] G (some (.int (G 59 i))) (gset G 59 (upd (G 59) i v)) := by
  refine Ev_of ?_
  show WP X 17 (am_blk 17 0) [some (.ref 58), some (.int (nI i)), some (.int v), none] [] G _
  simp (config := { contextual := true, maxSteps := 1000000 }) (disch := first | exact am_nl_i | exact am_nl_r | exact am_nl_n | exact am_l0 | exact am_l1 | exact am_l2 | exact am_l3 | assumption | omega) only [wp_ldc, wp_sipush, wp_ldc_w, wp_lconst, wp_iadd, wp_isub, wp_imul, wp_iand, wp_ior, wp_ixor, wp_ishl, wp_ishr, wp_iushr, wp_idiv, wp_irem, wp_ineg, wp_i2b, wp_i2s, wp_i2c, wp_i2l, wp_ladd, wp_lmul, wp_lcmp, wp_dup_i, wp_dup_r, wp_dup2, wp_pop, wp_getfield, wp_putfield, wp_getstatic, wp_iaload, wp_baload, wp_aaload, wp_iastore, wp_arraylength, wp_goto, wp_fall, wp_ieq, wp_ine, wp_ilt, wp_ige, wp_igt, wp_ile, wp_ceq, wp_cne, wp_clt, wp_cge, wp_cgt, wp_cle, wp_sw, wp_ret0, wp_ret1z, wp_ret1o, wp_ret1, wp_ret2, wp_ret3, wp_ret4, wp_ret5, wp_return, wp_min, wp_max, wp_abs, am_ex, gset_eq, gset_ne, upd_eq, upd_ne, gset_gset, am_ci_1, am_ci_6, am_toList_some, am_toList_none, true_implies, false_implies, and_self, and_true, true_and, not_true_eq_false, not_false_eq_true, imp_self, implies_true, Classical.not_not, if_true, if_false, false_and, and_false, or_false, false_or, true_or, or_true, Nat.reduceAdd, Nat.reduceMul, Nat.reduceSub, Nat.reduceLT, Nat.reduceLeDiff, Nat.reduceEqDiff, Nat.reduceBneDiff, Nat.add_zero, Nat.zero_add, reduceCtorEq, wil0, wal0, wis0, wic0, wil1, wal1, wis1, wic1, wil2, wll2, wal2, wis2, was2, wls2, wic2, wil3, wis3, wic3, wic3m, wic3s, wil4, wis4, wic4, wil5, wis5, wic5, wic5m, wil6, wll6, wal6, wis6, was6, wls6, wic6, wil7, wal7, wis7, was7, wic7, wil8, wis8, wic8, wil9, wis9, wic9, wil10, wis10, wic10, am_nI_inj, am_nI_lt, am_nI_le, nI_add, pk_mul, am_nI_sub, am_add_m1, am_gfs, am_pfs, am_alds, am_asts, am_lens, bs17, am_B17_0]
theorem C_X5_become {X : AmX} {G : GG} {k : Nat} {r : List Instr} {lv : LV} {st : List Value} {Q : Option Value → GG → Prop} {i : Nat} {v : Int32} (hi : i < 61) (hl : st.length ≤ 4) : WP X k (.invokeinterface 17 3 :: r) lv ((.int v) :: (.int (nI i)) :: (.ref 58) :: st) G Q ↔ WP X k r lv ((.int (G 59 i)) :: st) (gset G 59 (upd (G 59) i v)) Q := WP_ev (E_X5_become i v hi) (by decide) rfl rfl hl (rfl)
theorem E_X4_shareOf {X : AmX} {G : GG} (x : Int32) (m : Nat) (hm : m < 2 ^ 31) : Ev X 47 [.int x, .int (nI m)] G (some (.int (if m = 0 then nI 0 else x / nI m))) (G) := by
  refine Ev_of ?_
  show WP X 47 (am_blk 47 0) [some (.int x), some (.int (nI m))] [] G _
  by_cases h0 : m = 0
  · subst h0
    simp (config := { contextual := true, maxSteps := 1000000 }) (disch := first | exact am_nl_i | exact am_nl_r | exact am_nl_n | exact am_l0 | exact am_l1 | exact am_l2 | exact am_l3 | assumption | omega) only [wp_ldc, wp_sipush, wp_ldc_w, wp_lconst, wp_iadd, wp_isub, wp_imul, wp_iand, wp_ior, wp_ixor, wp_ishl, wp_ishr, wp_iushr, wp_idiv, wp_irem, wp_ineg, wp_i2b, wp_i2s, wp_i2c, wp_i2l, wp_ladd, wp_lmul, wp_lcmp, wp_dup_i, wp_dup_r, wp_dup2, wp_pop, wp_getfield, wp_putfield, wp_getstatic, wp_iaload, wp_baload, wp_aaload, wp_iastore, wp_arraylength, wp_goto, wp_fall, wp_ieq, wp_ine, wp_ilt, wp_ige, wp_igt, wp_ile, wp_ceq, wp_cne, wp_clt, wp_cge, wp_cgt, wp_cle, wp_sw, wp_ret0, wp_ret1z, wp_ret1o, wp_ret1, wp_ret2, wp_ret3, wp_ret4, wp_ret5, wp_return, wp_min, wp_max, wp_abs, am_ex, gset_eq, gset_ne, upd_eq, upd_ne, gset_gset, am_ci_1, am_ci_6, am_toList_some, am_toList_none, true_implies, false_implies, and_self, and_true, true_and, not_true_eq_false, not_false_eq_true, imp_self, implies_true, Classical.not_not, if_true, if_false, false_and, and_false, or_false, false_or, true_or, or_true, Nat.reduceAdd, Nat.reduceMul, Nat.reduceSub, Nat.reduceLT, Nat.reduceLeDiff, Nat.reduceEqDiff, Nat.reduceBneDiff, Nat.add_zero, Nat.zero_add, reduceCtorEq, wil0, wal0, wis0, wic0, wil1, wal1, wis1, wic1, wil2, wll2, wal2, wis2, was2, wls2, wic2, wil3, wis3, wic3, wic3m, wic3s, wil4, wis4, wic4, wil5, wis5, wic5, wic5m, wil6, wll6, wal6, wis6, was6, wls6, wic6, wil7, wal7, wis7, was7, wic7, wil8, wis8, wic8, wil9, wis9, wic9, wil10, wis10, wic10, am_nI_inj, am_nI_lt, am_nI_le, nI_add, pk_mul, am_nI_sub, am_add_m1, am_gfs, am_pfs, am_alds, am_asts, am_lens, bs47, am_B47_0, am_B47_10, am_B47_11, Nat.le_refl]
  · have h1 : ¬ m ≤ 0 := by omega
    simp (config := { contextual := true, maxSteps := 1000000 }) (disch := first | exact am_nl_i | exact am_nl_r | exact am_nl_n | exact am_l0 | exact am_l1 | exact am_l2 | exact am_l3 | assumption | omega) only [wp_ldc, wp_sipush, wp_ldc_w, wp_lconst, wp_iadd, wp_isub, wp_imul, wp_iand, wp_ior, wp_ixor, wp_ishl, wp_ishr, wp_iushr, wp_idiv, wp_irem, wp_ineg, wp_i2b, wp_i2s, wp_i2c, wp_i2l, wp_ladd, wp_lmul, wp_lcmp, wp_dup_i, wp_dup_r, wp_dup2, wp_pop, wp_getfield, wp_putfield, wp_getstatic, wp_iaload, wp_baload, wp_aaload, wp_iastore, wp_arraylength, wp_goto, wp_fall, wp_ieq, wp_ine, wp_ilt, wp_ige, wp_igt, wp_ile, wp_ceq, wp_cne, wp_clt, wp_cge, wp_cgt, wp_cle, wp_sw, wp_ret0, wp_ret1z, wp_ret1o, wp_ret1, wp_ret2, wp_ret3, wp_ret4, wp_ret5, wp_return, wp_min, wp_max, wp_abs, am_ex, gset_eq, gset_ne, upd_eq, upd_ne, gset_gset, am_ci_1, am_ci_6, am_toList_some, am_toList_none, true_implies, false_implies, and_self, and_true, true_and, not_true_eq_false, not_false_eq_true, imp_self, implies_true, Classical.not_not, if_true, if_false, false_and, and_false, or_false, false_or, true_or, or_true, Nat.reduceAdd, Nat.reduceMul, Nat.reduceSub, Nat.reduceLT, Nat.reduceLeDiff, Nat.reduceEqDiff, Nat.reduceBneDiff, Nat.add_zero, Nat.zero_add, reduceCtorEq, wil0, wal0, wis0, wic0, wil1, wal1, wis1, wic1, wil2, wll2, wal2, wis2, was2, wls2, wic2, wil3, wis3, wic3, wic3m, wic3s, wil4, wis4, wic4, wil5, wis5, wic5, wic5m, wil6, wll6, wal6, wis6, was6, wls6, wic6, wil7, wal7, wis7, was7, wic7, wil8, wis8, wic8, wil9, wis9, wic9, wil10, wis10, wic10, am_nI_inj, am_nI_lt, am_nI_le, nI_add, pk_mul, am_nI_sub, am_add_m1, am_gfs, am_pfs, am_alds, am_asts, am_lens, bs47, am_B47_0, am_B47_10, am_B47_11, h0, h1]
theorem C_X4_shareOf {X : AmX} {G : GG} {k : Nat} {r : List Instr} {lv : LV} {st : List Value} {Q : Option Value → GG → Prop} {x : Int32} {m : Nat} (hm : m < 2 ^ 31) (hl : st.length ≤ 4) : WP X k (.invokeinterface 47 2 :: r) lv ((.int (nI m)) :: (.int x) :: st) G Q ↔ WP X k r lv ((.int (if m = 0 then nI 0 else x / nI m)) :: st) (G) Q := WP_ev (E_X4_shareOf x m hm) (by decide) rfl rfl hl (rfl)
theorem E_X3_nextDraw {X : AmX} {G : GG} (b : Nat) (hb : TB b) : Ev X 140 [.ref b] G (some (.int ((((G b 9 * nI 1103515245 + nI 12345).toUInt32 >>> ((nI 8).toUInt32 &&& Int32.toUInt32 31)).toInt32)))) (gset G b (upd (G b) 9 (G b 9 * nI 1103515245 + nI 12345))) := by
  have hb5 : b < 500 := hb.lt
  refine Ev_of ?_
  show WP X 140 (am_blk 140 0) [some (.ref b)] [] G _
  simp (config := { contextual := true, maxSteps := 1000000 }) (disch := first | exact am_nl_i | exact am_nl_r | exact am_nl_n | exact am_l0 | exact am_l1 | exact am_l2 | exact am_l3 | assumption | omega) only [wp_ldc, wp_sipush, wp_ldc_w, wp_lconst, wp_iadd, wp_isub, wp_imul, wp_iand, wp_ior, wp_ixor, wp_ishl, wp_ishr, wp_iushr, wp_idiv, wp_irem, wp_ineg, wp_i2b, wp_i2s, wp_i2c, wp_i2l, wp_ladd, wp_lmul, wp_lcmp, wp_dup_i, wp_dup_r, wp_dup2, wp_pop, wp_getfield, wp_putfield, wp_getstatic, wp_iaload, wp_baload, wp_aaload, wp_iastore, wp_arraylength, wp_goto, wp_fall, wp_ieq, wp_ine, wp_ilt, wp_ige, wp_igt, wp_ile, wp_ceq, wp_cne, wp_clt, wp_cge, wp_cgt, wp_cle, wp_sw, wp_ret0, wp_ret1z, wp_ret1o, wp_ret1, wp_ret2, wp_ret3, wp_ret4, wp_ret5, wp_return, wp_min, wp_max, wp_abs, am_ex, gset_eq, gset_ne, upd_eq, upd_ne, gset_gset, am_ci_1, am_ci_6, am_toList_some, am_toList_none, true_implies, false_implies, and_self, and_true, true_and, not_true_eq_false, not_false_eq_true, imp_self, implies_true, Classical.not_not, if_true, if_false, false_and, and_false, or_false, false_or, true_or, or_true, Nat.reduceAdd, Nat.reduceMul, Nat.reduceSub, Nat.reduceLT, Nat.reduceLeDiff, Nat.reduceEqDiff, Nat.reduceBneDiff, Nat.add_zero, Nat.zero_add, reduceCtorEq, wil0, wal0, wis0, wic0, wil1, wal1, wis1, wic1, wil2, wll2, wal2, wis2, was2, wls2, wic2, wil3, wis3, wic3, wic3m, wic3s, wil4, wis4, wic4, wil5, wis5, wic5, wic5m, wil6, wll6, wal6, wis6, was6, wls6, wic6, wil7, wal7, wis7, was7, wic7, wil8, wis8, wic8, wil9, wis9, wic9, wil10, wis10, wic10, am_nI_inj, am_nI_lt, am_nI_le, nI_add, pk_mul, am_nI_sub, am_add_m1, am_gfs, am_pfs, am_alds, am_asts, am_lens, tgf0, tgf1, tgf2, tgf3, tgf4, tgf5, tgf6, tgf7, tgf8, tgf9, tgf10, tgf11, tgf12, tpf7, tpf8, tpf9, tal0, tas0, tln0, tal1, tas1, tln1, tal2, tas2, tln2, tal3, tas3, tln3, tal4, tas4, tln4, tal5, tas5, tln5, tal6, tas6, tln6, tal7, tas7, tln7, tal8, tas8, tln8, tal9, tas9, tln9, bs140, am_B140_0]
theorem C_X3_nextDraw {X : AmX} {G : GG} {k : Nat} {r : List Instr} {lv : LV} {st : List Value} {Q : Option Value → GG → Prop} {b : Nat} (hb : TB b) (hl : st.length ≤ 4) : WP X k (.invokeinterface 140 1 :: r) lv ((.ref b) :: st) G Q ↔ WP X k r lv ((.int ((((G b 9 * nI 1103515245 + nI 12345).toUInt32 >>> ((nI 8).toUInt32 &&& Int32.toUInt32 31)).toInt32))) :: st) (gset G b (upd (G b) 9 (G b 9 * nI 1103515245 + nI 12345))) Q := WP_ev (E_X3_nextDraw b hb) (by decide) rfl rfl hl (am_rcv_of rfl (tcls hb))
theorem E_X5_drawn {X : AmX} {G : GG}   : Ev X 142 [.ref 58] G (some (.int ((((G 59 2 * nI 1103515245 + nI 12345).toUInt32 >>> ((nI 8).toUInt32 &&& Int32.toUInt32 31)).toInt32)))) (gset G 59 (upd (G 59) 2 (G 59 2 * nI 1103515245 + nI 12345))) := by
  refine Ev_of ?_
  show WP X 142 (am_blk 142 0) [some (.ref 58)] [] G _
  simp (config := { contextual := true, maxSteps := 1000000 }) (disch := first | exact am_nl_i | exact am_nl_r | exact am_nl_n | exact am_l0 | exact am_l1 | exact am_l2 | exact am_l3 | assumption | omega) only [wp_ldc, wp_sipush, wp_ldc_w, wp_lconst, wp_iadd, wp_isub, wp_imul, wp_iand, wp_ior, wp_ixor, wp_ishl, wp_ishr, wp_iushr, wp_idiv, wp_irem, wp_ineg, wp_i2b, wp_i2s, wp_i2c, wp_i2l, wp_ladd, wp_lmul, wp_lcmp, wp_dup_i, wp_dup_r, wp_dup2, wp_pop, wp_getfield, wp_putfield, wp_getstatic, wp_iaload, wp_baload, wp_aaload, wp_iastore, wp_arraylength, wp_goto, wp_fall, wp_ieq, wp_ine, wp_ilt, wp_ige, wp_igt, wp_ile, wp_ceq, wp_cne, wp_clt, wp_cge, wp_cgt, wp_cle, wp_sw, wp_ret0, wp_ret1z, wp_ret1o, wp_ret1, wp_ret2, wp_ret3, wp_ret4, wp_ret5, wp_return, wp_min, wp_max, wp_abs, am_ex, gset_eq, gset_ne, upd_eq, upd_ne, gset_gset, am_ci_1, am_ci_6, am_toList_some, am_toList_none, true_implies, false_implies, and_self, and_true, true_and, not_true_eq_false, not_false_eq_true, imp_self, implies_true, Classical.not_not, if_true, if_false, false_and, and_false, or_false, false_or, true_or, or_true, Nat.reduceAdd, Nat.reduceMul, Nat.reduceSub, Nat.reduceLT, Nat.reduceLeDiff, Nat.reduceEqDiff, Nat.reduceBneDiff, Nat.add_zero, Nat.zero_add, reduceCtorEq, wil0, wal0, wis0, wic0, wil1, wal1, wis1, wic1, wil2, wll2, wal2, wis2, was2, wls2, wic2, wil3, wis3, wic3, wic3m, wic3s, wil4, wis4, wic4, wil5, wis5, wic5, wic5m, wil6, wll6, wal6, wis6, was6, wls6, wic6, wil7, wal7, wis7, was7, wic7, wil8, wis8, wic8, wil9, wis9, wic9, wil10, wis10, wic10, am_nI_inj, am_nI_lt, am_nI_le, nI_add, pk_mul, am_nI_sub, am_add_m1, am_gfs, am_pfs, am_alds, am_asts, am_lens, bs142, am_B142_0]
theorem C_X5_drawn {X : AmX} {G : GG} {k : Nat} {r : List Instr} {lv : LV} {st : List Value} {Q : Option Value → GG → Prop}   (hl : st.length ≤ 4) : WP X k (.invokeinterface 142 1 :: r) lv ((.ref 58) :: st) G Q ↔ WP X k r lv ((.int ((((G 59 2 * nI 1103515245 + nI 12345).toUInt32 >>> ((nI 8).toUInt32 &&& Int32.toUInt32 31)).toInt32))) :: st) (gset G 59 (upd (G 59) 2 (G 59 2 * nI 1103515245 + nI 12345))) Q := WP_ev (E_X5_drawn ) (by decide) rfl rfl hl (rfl)
theorem E_X0_isMissing {X : AmX} {G : GG} (b w : Nat) (hb : SB b) (hw : w < 33) (hbw : G b 1 = nI w) : Ev X 130 [.ref b] G (some (.int (bI (decide (w = 0))))) (G) := by
  have hb5 : b < 500 := hb.lt
  refine Ev_of ?_
  show WP X 130 (am_blk 130 0) [some (.ref b)] [] G _
  by_cases h0 : w = 0
  · subst h0
    simp (config := { contextual := true, maxSteps := 1000000 }) (disch := first | exact am_nl_i | exact am_nl_r | exact am_nl_n | exact am_l0 | exact am_l1 | exact am_l2 | exact am_l3 | assumption | omega) only [wp_ldc, wp_sipush, wp_ldc_w, wp_lconst, wp_iadd, wp_isub, wp_imul, wp_iand, wp_ior, wp_ixor, wp_ishl, wp_ishr, wp_iushr, wp_idiv, wp_irem, wp_ineg, wp_i2b, wp_i2s, wp_i2c, wp_i2l, wp_ladd, wp_lmul, wp_lcmp, wp_dup_i, wp_dup_r, wp_dup2, wp_pop, wp_getfield, wp_putfield, wp_getstatic, wp_iaload, wp_baload, wp_aaload, wp_iastore, wp_arraylength, wp_goto, wp_fall, wp_ieq, wp_ine, wp_ilt, wp_ige, wp_igt, wp_ile, wp_ceq, wp_cne, wp_clt, wp_cge, wp_cgt, wp_cle, wp_sw, wp_ret0, wp_ret1z, wp_ret1o, wp_ret1, wp_ret2, wp_ret3, wp_ret4, wp_ret5, wp_return, wp_min, wp_max, wp_abs, am_ex, gset_eq, gset_ne, upd_eq, upd_ne, gset_gset, am_ci_1, am_ci_6, am_toList_some, am_toList_none, true_implies, false_implies, and_self, and_true, true_and, not_true_eq_false, not_false_eq_true, imp_self, implies_true, Classical.not_not, if_true, if_false, false_and, and_false, or_false, false_or, true_or, or_true, Nat.reduceAdd, Nat.reduceMul, Nat.reduceSub, Nat.reduceLT, Nat.reduceLeDiff, Nat.reduceEqDiff, Nat.reduceBneDiff, Nat.add_zero, Nat.zero_add, reduceCtorEq, wil0, wal0, wis0, wic0, wil1, wal1, wis1, wic1, wil2, wll2, wal2, wis2, was2, wls2, wic2, wil3, wis3, wic3, wic3m, wic3s, wil4, wis4, wic4, wil5, wis5, wic5, wic5m, wil6, wll6, wal6, wis6, was6, wls6, wic6, wil7, wal7, wis7, was7, wic7, wil8, wis8, wic8, wil9, wis9, wic9, wil10, wis10, wic10, am_nI_inj, am_nI_lt, am_nI_le, nI_add, pk_mul, am_nI_sub, am_add_m1, am_gfs, am_pfs, am_alds, am_asts, am_lens, sgf0, sgf1, sgf2, spf1, spf2, sal, sas, sln, am_qld48, am_qld71, am_len71, am_ald300, bs130, am_B130_0, am_B130_11, am_B130_12, hbw, bI, decide_true]
  · simp (config := { contextual := true, maxSteps := 1000000 }) (disch := first | exact am_nl_i | exact am_nl_r | exact am_nl_n | exact am_l0 | exact am_l1 | exact am_l2 | exact am_l3 | assumption | omega) only [wp_ldc, wp_sipush, wp_ldc_w, wp_lconst, wp_iadd, wp_isub, wp_imul, wp_iand, wp_ior, wp_ixor, wp_ishl, wp_ishr, wp_iushr, wp_idiv, wp_irem, wp_ineg, wp_i2b, wp_i2s, wp_i2c, wp_i2l, wp_ladd, wp_lmul, wp_lcmp, wp_dup_i, wp_dup_r, wp_dup2, wp_pop, wp_getfield, wp_putfield, wp_getstatic, wp_iaload, wp_baload, wp_aaload, wp_iastore, wp_arraylength, wp_goto, wp_fall, wp_ieq, wp_ine, wp_ilt, wp_ige, wp_igt, wp_ile, wp_ceq, wp_cne, wp_clt, wp_cge, wp_cgt, wp_cle, wp_sw, wp_ret0, wp_ret1z, wp_ret1o, wp_ret1, wp_ret2, wp_ret3, wp_ret4, wp_ret5, wp_return, wp_min, wp_max, wp_abs, am_ex, gset_eq, gset_ne, upd_eq, upd_ne, gset_gset, am_ci_1, am_ci_6, am_toList_some, am_toList_none, true_implies, false_implies, and_self, and_true, true_and, not_true_eq_false, not_false_eq_true, imp_self, implies_true, Classical.not_not, if_true, if_false, false_and, and_false, or_false, false_or, true_or, or_true, Nat.reduceAdd, Nat.reduceMul, Nat.reduceSub, Nat.reduceLT, Nat.reduceLeDiff, Nat.reduceEqDiff, Nat.reduceBneDiff, Nat.add_zero, Nat.zero_add, reduceCtorEq, wil0, wal0, wis0, wic0, wil1, wal1, wis1, wic1, wil2, wll2, wal2, wis2, was2, wls2, wic2, wil3, wis3, wic3, wic3m, wic3s, wil4, wis4, wic4, wil5, wis5, wic5, wic5m, wil6, wll6, wal6, wis6, was6, wls6, wic6, wil7, wal7, wis7, was7, wic7, wil8, wis8, wic8, wil9, wis9, wic9, wil10, wis10, wic10, am_nI_inj, am_nI_lt, am_nI_le, nI_add, pk_mul, am_nI_sub, am_add_m1, am_gfs, am_pfs, am_alds, am_asts, am_lens, sgf0, sgf1, sgf2, spf1, spf2, sal, sas, sln, am_qld48, am_qld71, am_len71, am_ald300, bs130, am_B130_0, am_B130_11, am_B130_12, hbw, bI, h0, decide_false]
    try simp
theorem C_X0_isMissing {X : AmX} {G : GG} {k : Nat} {r : List Instr} {lv : LV} {st : List Value} {Q : Option Value → GG → Prop} {b w : Nat} (hb : SB b) (hw : w < 33) (hbw : G b 1 = nI w) (hl : st.length ≤ 4) : WP X k (.invokeinterface 130 1 :: r) lv ((.ref b) :: st) G Q ↔ WP X k r lv ((.int (bI (decide (w = 0)))) :: st) (G) Q := WP_ev (E_X0_isMissing b w hb hw hbw) (by decide) rfl rfl hl (am_rcv_of rfl (scls hb))
theorem E_X5_isPlaceN {X : AmX} {G : GG} (j : Nat) (hj : j < 8) : Ev X 14 [.int (nI j)] G (some (.int (nI 1))) (G) := by
  refine Ev_of ?_
  show WP X 14 (am_blk 14 0) [some (.int (nI j))] [] G _
  have h : decide (0 ≤ j ∧ j ≤ 7) = true := decide_eq_true (by omega)
  simp (config := { contextual := true, maxSteps := 1000000 }) (disch := first | exact am_nl_i | exact am_nl_r | exact am_nl_n | exact am_l0 | exact am_l1 | exact am_l2 | exact am_l3 | assumption | omega) only [wp_ldc, wp_sipush, wp_ldc_w, wp_lconst, wp_iadd, wp_isub, wp_imul, wp_iand, wp_ior, wp_ixor, wp_ishl, wp_ishr, wp_iushr, wp_idiv, wp_irem, wp_ineg, wp_i2b, wp_i2s, wp_i2c, wp_i2l, wp_ladd, wp_lmul, wp_lcmp, wp_dup_i, wp_dup_r, wp_dup2, wp_pop, wp_getfield, wp_putfield, wp_getstatic, wp_iaload, wp_baload, wp_aaload, wp_iastore, wp_arraylength, wp_goto, wp_fall, wp_ieq, wp_ine, wp_ilt, wp_ige, wp_igt, wp_ile, wp_ceq, wp_cne, wp_clt, wp_cge, wp_cgt, wp_cle, wp_sw, wp_ret0, wp_ret1z, wp_ret1o, wp_ret1, wp_ret2, wp_ret3, wp_ret4, wp_ret5, wp_return, wp_min, wp_max, wp_abs, am_ex, gset_eq, gset_ne, upd_eq, upd_ne, gset_gset, am_ci_1, am_ci_6, am_toList_some, am_toList_none, true_implies, false_implies, and_self, and_true, true_and, not_true_eq_false, not_false_eq_true, imp_self, implies_true, Classical.not_not, if_true, if_false, false_and, and_false, or_false, false_or, true_or, or_true, Nat.reduceAdd, Nat.reduceMul, Nat.reduceSub, Nat.reduceLT, Nat.reduceLeDiff, Nat.reduceEqDiff, Nat.reduceBneDiff, Nat.add_zero, Nat.zero_add, reduceCtorEq, wil0, wal0, wis0, wic0, wil1, wal1, wis1, wic1, wil2, wll2, wal2, wis2, was2, wls2, wic2, wil3, wis3, wic3, wic3m, wic3s, wil4, wis4, wic4, wil5, wis5, wic5, wic5m, wil6, wll6, wal6, wis6, was6, wls6, wic6, wil7, wal7, wis7, was7, wic7, wil8, wis8, wic8, wil9, wis9, wic9, wil10, wis10, wic10, am_nI_inj, am_nI_lt, am_nI_le, nI_add, pk_mul, am_nI_sub, am_add_m1, am_gfs, am_pfs, am_alds, am_asts, am_lens, bs14, am_B14_0, C_X5_within, wp_ret1b, inR_nI, h, bI_t]
theorem C_X5_isPlaceN {X : AmX} {G : GG} {k : Nat} {r : List Instr} {lv : LV} {st : List Value} {Q : Option Value → GG → Prop} {j : Nat} (hj : j < 8) (hl : st.length ≤ 4) : WP X k (.invokeinterface 14 1 :: r) lv ((.int (nI j)) :: st) G Q ↔ WP X k r lv ((.int (nI 1)) :: st) (G) Q := WP_ev (E_X5_isPlaceN j hj) (by decide) rfl rfl hl (rfl)
end
section
/-! ===== a town as numbers: what is wished, chosen, got; what a Tuesday does ===== -/
abbrev TT : Type := Nat → Nat → Nat
/-- a number that may be none (8) -/
def eP (x : Nat) : Int32 := if x = 8 then nM else nI x
theorem eP_8 : eP 8 = nM := rfl
theorem eP_lt {x : Nat} (h : ¬ x = 8) : eP x = nI x := if_neg h
theorem eP_eq {x p : Nat} (hx : x ≤ 8) (hp : p < 8) : (eP x = nI p) = (x = p) := by
  unfold eP
  by_cases h : x = 8
  · rw [if_pos h, nM_en (by omega)]
    exact propext ⟨False.elim, fun z => by omega⟩
  · rw [if_neg h, am_nI_inj (by omega) (by omega)]
theorem eP_inj {x y : Nat} (hx : x ≤ 8) (hy : y ≤ 8) : (eP x = eP y) = (x = y) := by
  by_cases h : y = 8
  · subst h
    rw [eP_8]
    unfold eP
    by_cases h2 : x = 8
    · rw [if_pos h2]; simp [h2]
    · rw [if_neg h2, nM_ne (by omega)]; simp [h2]
  · rw [eP_lt h, eP_eq hx (by omega)]
def cntN (f : Nat → Nat) (v : Nat) : Nat → Nat
  | 0 => 0
  | n + 1 => cntN f v n + if f n = v then 1 else 0

theorem cntN_le (f : Nat → Nat) (v : Nat) : ∀ n, cntN f v n ≤ n
  | 0 => Nat.le_refl 0
  | n + 1 => by have := cntN_le f v n; unfold cntN; split <;> omega
theorem cntN_pos {f : Nat → Nat} {v i : Nat} (h : f i = v) : ∀ n, i < n → 1 ≤ cntN f v n
  | 0, hi => absurd hi (Nat.not_lt_zero i)
  | n + 1, hi => by
    unfold cntN
    by_cases e : i = n
    · subst e; rw [if_pos h]; omega
    · have := cntN_pos h n (by omega); omega
theorem cntN_congr {f g : Nat → Nat} {v : Nat} : ∀ n, (∀ j, j < n → f j = g j) → cntN f v n = cntN g v n
  | 0, _ => rfl
  | n + 1, h => by
    unfold cntN
    rw [cntN_congr n (fun j hj => h j (by omega)), h n (by omega)]
def wishT (kk : Nat) (share whole : Int32) (o : Nat) (isP fl : Bool) : Int32 := match kk with
  | 1 => whole
  | 2 => share + (if fl = true then nI 100 else nI 0)
  | 3 => share + (if fl = true then nI 100 else nI 0) - nI (5 * o)
  | 4 => share + (if fl = true then nI 100 else nI 0) - nI (5 * o) + nI (7 * o)
  | 5 => bI isP
  | 6 => if isP = true then whole else nI 0
  | _ => share
/-- how many others one sees at a place -/
def othN (T : TT) (n i p : Nat) : Nat := cntN (T 2) p n - if T 2 i = p then 1 else 0
def flN (T : TT) (i p : Nat) : Bool := decide (T 4 i < 8 ∧ T 2 (T 4 i) = p)
def wishN (T : TT) (n i p : Nat) : Int32 := wishT (T 1 i) (nI (T 0 p) / nI (othN T n i p + 1)) (if othN T n i p = 0 then nI (T 0 p) else nI 0) (othN T n i p) (decide (T 2 i = p)) (flN T i p)
def seesN (T : TT) (i p : Nat) : Bool := decide (T 2 i ≤ p + T 3 i ∧ p ≤ T 2 i + T 3 i)
/-- the best among the first k places that are seen, beginning with q -/
def chF (w : Nat → Int32) (s : Nat → Bool) (q : Nat) : Nat → Nat
  | 0 => q
  | k + 1 => if s k = true ∧ w (chF w s q k) < w k then k else chF w s q k
theorem chF_skip {w : Nat → Int32} {s : Nat → Bool} {q a : Nat} : ∀ d, (∀ k, a ≤ k → k < a + d → s k = false) → chF w s q (a + d) = chF w s q a
  | 0, _ => rfl
  | d + 1, h => by
    have e : chF w s q (a + (d + 1)) = if s (a + d) = true ∧ w (chF w s q (a + d)) < w (a + d) then a + d else chF w s q (a + d) := rfl
    rw [e, if_neg (fun z => by rw [h (a + d) (by omega) (by omega)] at z; cases z.1)]
    exact chF_skip d (fun k h1 h2 => h k h1 (by omega))
theorem chF_lt {w : Nat → Int32} {s : Nat → Bool} {q m : Nat} (hq : q < m) : ∀ k, k ≤ m → chF w s q k < m
  | 0, _ => hq
  | k + 1, h => by
    unfold chF
    split
    · omega
    · exact chF_lt hq k (by omega)
def chN (T : TT) (n i : Nat) : Nat := if T 2 i = 8 then 8 else chF (wishN T n i) (seesN T i) (T 2 i) 8
theorem chN_le {T : TT} {n i : Nat} (h : T 2 i ≤ 8) : chN T n i ≤ 8 := by
  unfold chN
  split
  · omega
  · have := chF_lt (w := wishN T n i) (s := seesN T i) (q := T 2 i) (m := 8) (by omega) 8 (by omega); omega
def ccN (T : TT) (n p : Nat) : Nat := cntN (chN T n) p n
def getN (T : TT) (n i : Nat) : Nat := if chN T n i = 8 then 0 else T 0 (chN T n i) / ccN T n (chN T n i)
def stepN (n : Nat) (T : TT) : TT := fun c i => if c = 5 ∧ i < n then min 99999 (T 5 i + getN T n i) else if c = 2 ∧ i < n then (if T 1 i = 5 ∨ T 1 i = 6 then T 2 i else chN T n i) else T c i
def runN (n : Nat) : Nat → TT → TT
  | 0, T => T
  | k + 1, T => runN n k (stepN n T)
theorem runN_s (n : Nat) : ∀ (k : Nat) (T : TT), runN n (k + 1) T = stepN n (runN n k T)
  | 0, T => rfl
  | k + 1, T => by
    show runN n (k + 1) (stepN n T) = _
    rw [runN_s n k (stepN n T)]
    rfl
/-- a town is sound -/
def TV (n : Nat) (T : TT) : Prop := n ≤ 8 ∧ (∀ p, p < 8 → T 0 p ≤ 9999) ∧ (∀ i, i < n → T 1 i < 7 ∧ T 2 i ≤ 8 ∧ T 3 i < 8 ∧ (T 4 i = 8 ∨ T 4 i < n) ∧ T 5 i ≤ 99999) ∧ ∀ s, s < 10 → T 6 s = 8 ∨ T 6 s < n
theorem TV_step {n : Nat} {T : TT} (h : TV n T) : TV n (stepN n T) := by
  obtain ⟨h1, h2, h3, h4⟩ := h
  refine ⟨h1, fun p hp => ?_, fun i hi => ?_, fun s hs => ?_⟩
  · have := h2 p hp; simpa [stepN] using this
  · obtain ⟨a1, a2, a3, a4, a5⟩ := h3 i hi
    refine ⟨by simpa [stepN] using a1, ?_, by simpa [stepN] using a3, by simpa [stepN] using a4, ?_⟩
    · have hc := chN_le (n := n) a2
      simp only [stepN, hi]
      simp only [show ¬ (2 = 5) by decide, false_and, if_false, and_self, if_true]
      split <;> omega
    · simp only [stepN, hi]
      simp only [and_self, if_true]
      omega
  · simpa [stepN] using h4 s hs
theorem TV_run {n : Nat} : ∀ (k : Nat) {T : TT}, TV n T → TV n (runN n k T)
  | 0, _, h => h
  | k + 1, _, h => TV_run k (TV_step h)
/-- how a town of the class holds it -/
def TE (G : GG) (b n : Nat) (T : TT) (t : Nat) (z : Int32) : Prop := G b 7 = nI n ∧ G b 8 = nI t ∧ G b 9 = z ∧ (∀ p, p < 8 → G (b + 1) p = nI (T 0 p)) ∧ (∀ i, i < n → G (b + 2) i = nI (T 1 i)) ∧ (∀ i, i < n → G (b + 3) i = eP (T 2 i)) ∧ (∀ i, i < n → G (b + 4) i = nI (T 3 i)) ∧ (∀ i, i < n → G (b + 5) i = eP (T 4 i)) ∧ (∀ i, i < n → G (b + 6) i = nI (T 5 i)) ∧ ∀ s, s < 10 → G (b + 7) s = eP (T 6 s)
theorem TE_congr {G G1 : GG} {b n : Nat} {T : TT} {t : Nat} {z : Int32} (h : TE G b n T t z) (e : ∀ o, b ≤ o → o ≤ b + 7 → G1 o = G o) : TE G1 b n T t z := by
  obtain ⟨a0, a1, a2, a3, a4, a5, a6, a7, a8, a9⟩ := h
  unfold TE
  rw [e b (by omega) (by omega), e (b + 1) (by omega) (by omega), e (b + 2) (by omega) (by omega), e (b + 3) (by omega) (by omega), e (b + 4) (by omega) (by omega), e (b + 5) (by omega) (by omega), e (b + 6) (by omega) (by omega), e (b + 7) (by omega) (by omega)]
  exact ⟨a0, a1, a2, a3, a4, a5, a6, a7, a8, a9⟩
/-- planned: how many plan to be where -/
def PL (G : GG) (b n : Nat) (T : TT) : Prop := ∀ p, p < 8 → G (b + 8) p = nI (cntN (T 2) p n)
/-- settled: planned, chosen, how many come where -/
def SE (G : GG) (b n : Nat) (T : TT) : Prop := PL G b n T ∧ (∀ i, i < n → G (b + 9) i = eP (chN T n i)) ∧ ∀ p, p < 8 → G (b + 10) p = nI (ccN T n p)
theorem SE_congr {G G1 : GG} {b n : Nat} {T : TT} (h : SE G b n T) (e : ∀ o, b + 8 ≤ o → o ≤ b + 10 → G1 o = G o) : SE G1 b n T := by
  obtain ⟨a0, a1, a2⟩ := h
  refine ⟨fun p hp => ?_, ?_⟩
  · rw [e (b + 8) (by omega) (by omega)]; exact a0 p hp
  · rw [e (b + 9) (by omega) (by omega), e (b + 10) (by omega) (by omega)]
    exact ⟨a1, a2⟩
theorem inR_eP {q : Nat} (hq : q ≤ 8) : inR (eP q) (nI 0) (nI 7) = decide (q < 8) := by
  by_cases h : q = 8
  · subst h; decide
  · rw [eP_lt h, inR_nI (by omega) (by omega) (by omega)]
    exact decide_eq_decide.mpr (by omega)
theorem am_max0 {q l : Nat} (hq : q < 2 ^ 30) (hl : l < 2 ^ 30) : (if nI 0 < nI q - nI l then nI q - nI l else nI 0) = nI (q - l) := by
  rcases Nat.lt_or_ge q l with h | h
  · have h1 := pk_sneg (a := q) (b := l) hl h
    rw [if_neg, show q - l = 0 by omega]
    intro z
    rw [Int32.lt_iff_toInt_lt] at z h1
    have e0 : (nI 0).toInt = 0 := by decide
    have e1 : (0 : Int32).toInt = 0 := by decide
    omega
  · rw [am_nI_sub h]
    by_cases h0 : q - l = 0
    · rw [h0, if_neg (by decide)]
    · rw [if_pos (by rw [am_nI_lt (by omega) (by omega)]; omega)]
theorem am_min7 {x : Nat} (hx : x < 2 ^ 31) : (if nI x < nI 7 then nI x else nI 7) = nI (min x 7) := by
  by_cases h : x < 7
  · rw [if_pos (by rw [am_nI_lt hx (by omega)]; exact h), show min x 7 = x by omega]
  · rw [if_neg (by rw [am_nI_lt hx (by omega)]; exact h), show min x 7 = 7 by omega]
theorem cntN_s (f : Nat → Nat) (v n : Nat) : cntN f v (n + 1) = cntN f v n + if f n = v then 1 else 0 := rfl
end
section
/-! ===== the class's town: wishes, choices, settling ===== -/
theorem wish_tail {X : AmX} {G : GG} {Q : Option Value → GG → Prop} {b : Nat} {i p share whole love : Int32} (kk o : Nat) (isP fl : Bool) (hk : kk < 7) : WP X 22 (am_blk 22 (am_sw 218 1 6 #[160, 163, 169, 180, 197, 207] (nI kk)).toNat) [some (.ref b), some (.int i), some (.int p), some (.int (bI isP)), some (.int (nI o)), some (.int share), some (.int whole), some (.int love), some (.int (if fl = true then nI 100 else nI 0))] [] G Q ↔ Q (some (.int (wishT kk share whole o isP fl))) G := by
  rcases (by omega : kk = 0 ∨ kk = 1 ∨ kk = 2 ∨ kk = 3 ∨ kk = 4 ∨ kk = 5 ∨ kk = 6) with rfl | rfl | rfl | rfl | rfl | rfl | rfl
  · rw [show am_sw 218 1 6 #[160, 163, 169, 180, 197, 207] (nI 0) = 218 from by decide]
    simp (config := { contextual := true, maxSteps := 1000000 }) (disch := first | exact am_nl_i | exact am_nl_r | exact am_nl_n | exact am_l0 | exact am_l1 | exact am_l2 | exact am_l3 | assumption | omega) only [wp_ldc, wp_sipush, wp_ldc_w, wp_lconst, wp_iadd, wp_isub, wp_imul, wp_iand, wp_ior, wp_ixor, wp_ishl, wp_ishr, wp_iushr, wp_idiv, wp_irem, wp_ineg, wp_i2b, wp_i2s, wp_i2c, wp_i2l, wp_ladd, wp_lmul, wp_lcmp, wp_dup_i, wp_dup_r, wp_dup2, wp_pop, wp_getfield, wp_putfield, wp_getstatic, wp_iaload, wp_baload, wp_aaload, wp_iastore, wp_arraylength, wp_goto, wp_fall, wp_ieq, wp_ine, wp_ilt, wp_ige, wp_igt, wp_ile, wp_ceq, wp_cne, wp_clt, wp_cge, wp_cgt, wp_cle, wp_sw, wp_ret0, wp_ret1z, wp_ret1o, wp_ret1, wp_ret2, wp_ret3, wp_ret4, wp_ret5, wp_return, wp_min, wp_max, wp_abs, am_ex, gset_eq, gset_ne, upd_eq, upd_ne, gset_gset, am_ci_1, am_ci_6, am_toList_some, am_toList_none, true_implies, false_implies, and_self, and_true, true_and, not_true_eq_false, not_false_eq_true, imp_self, implies_true, Classical.not_not, if_true, if_false, false_and, and_false, or_false, false_or, true_or, or_true, Nat.reduceAdd, Nat.reduceMul, Nat.reduceSub, Nat.reduceLT, Nat.reduceLeDiff, Nat.reduceEqDiff, Nat.reduceBneDiff, Nat.add_zero, Nat.zero_add, reduceCtorEq, wil0, wal0, wis0, wic0, wil1, wal1, wis1, wic1, wil2, wll2, wal2, wis2, was2, wls2, wic2, wil3, wis3, wic3, wic3m, wic3s, wil4, wis4, wic4, wil5, wis5, wic5, wic5m, wil6, wll6, wal6, wis6, was6, wls6, wic6, wil7, wal7, wis7, was7, wic7, wil8, wis8, wic8, wil9, wis9, wic9, wil10, wis10, wic10, am_nI_inj, am_nI_lt, am_nI_le, nI_add, pk_mul, am_nI_sub, am_add_m1, am_gfs, am_pfs, am_alds, am_asts, am_lens, bs22, am_B22_0, am_B22_14, am_B22_15, am_B22_30, am_B22_31, am_B22_53, am_B22_54, am_B22_70, am_B22_71, am_B22_111, am_B22_112, am_B22_160, am_B22_163, am_B22_169, am_B22_180, am_B22_197, am_B22_205, am_B22_206, am_B22_207, am_B22_216, am_B22_217, am_B22_218, wishT]
  · rw [show am_sw 218 1 6 #[160, 163, 169, 180, 197, 207] (nI 1) = 160 from by decide]
    simp (config := { contextual := true, maxSteps := 1000000 }) (disch := first | exact am_nl_i | exact am_nl_r | exact am_nl_n | exact am_l0 | exact am_l1 | exact am_l2 | exact am_l3 | assumption | omega) only [wp_ldc, wp_sipush, wp_ldc_w, wp_lconst, wp_iadd, wp_isub, wp_imul, wp_iand, wp_ior, wp_ixor, wp_ishl, wp_ishr, wp_iushr, wp_idiv, wp_irem, wp_ineg, wp_i2b, wp_i2s, wp_i2c, wp_i2l, wp_ladd, wp_lmul, wp_lcmp, wp_dup_i, wp_dup_r, wp_dup2, wp_pop, wp_getfield, wp_putfield, wp_getstatic, wp_iaload, wp_baload, wp_aaload, wp_iastore, wp_arraylength, wp_goto, wp_fall, wp_ieq, wp_ine, wp_ilt, wp_ige, wp_igt, wp_ile, wp_ceq, wp_cne, wp_clt, wp_cge, wp_cgt, wp_cle, wp_sw, wp_ret0, wp_ret1z, wp_ret1o, wp_ret1, wp_ret2, wp_ret3, wp_ret4, wp_ret5, wp_return, wp_min, wp_max, wp_abs, am_ex, gset_eq, gset_ne, upd_eq, upd_ne, gset_gset, am_ci_1, am_ci_6, am_toList_some, am_toList_none, true_implies, false_implies, and_self, and_true, true_and, not_true_eq_false, not_false_eq_true, imp_self, implies_true, Classical.not_not, if_true, if_false, false_and, and_false, or_false, false_or, true_or, or_true, Nat.reduceAdd, Nat.reduceMul, Nat.reduceSub, Nat.reduceLT, Nat.reduceLeDiff, Nat.reduceEqDiff, Nat.reduceBneDiff, Nat.add_zero, Nat.zero_add, reduceCtorEq, wil0, wal0, wis0, wic0, wil1, wal1, wis1, wic1, wil2, wll2, wal2, wis2, was2, wls2, wic2, wil3, wis3, wic3, wic3m, wic3s, wil4, wis4, wic4, wil5, wis5, wic5, wic5m, wil6, wll6, wal6, wis6, was6, wls6, wic6, wil7, wal7, wis7, was7, wic7, wil8, wis8, wic8, wil9, wis9, wic9, wil10, wis10, wic10, am_nI_inj, am_nI_lt, am_nI_le, nI_add, pk_mul, am_nI_sub, am_add_m1, am_gfs, am_pfs, am_alds, am_asts, am_lens, bs22, am_B22_0, am_B22_14, am_B22_15, am_B22_30, am_B22_31, am_B22_53, am_B22_54, am_B22_70, am_B22_71, am_B22_111, am_B22_112, am_B22_160, am_B22_163, am_B22_169, am_B22_180, am_B22_197, am_B22_205, am_B22_206, am_B22_207, am_B22_216, am_B22_217, am_B22_218, wishT]
  · rw [show am_sw 218 1 6 #[160, 163, 169, 180, 197, 207] (nI 2) = 163 from by decide]
    simp (config := { contextual := true, maxSteps := 1000000 }) (disch := first | exact am_nl_i | exact am_nl_r | exact am_nl_n | exact am_l0 | exact am_l1 | exact am_l2 | exact am_l3 | assumption | omega) only [wp_ldc, wp_sipush, wp_ldc_w, wp_lconst, wp_iadd, wp_isub, wp_imul, wp_iand, wp_ior, wp_ixor, wp_ishl, wp_ishr, wp_iushr, wp_idiv, wp_irem, wp_ineg, wp_i2b, wp_i2s, wp_i2c, wp_i2l, wp_ladd, wp_lmul, wp_lcmp, wp_dup_i, wp_dup_r, wp_dup2, wp_pop, wp_getfield, wp_putfield, wp_getstatic, wp_iaload, wp_baload, wp_aaload, wp_iastore, wp_arraylength, wp_goto, wp_fall, wp_ieq, wp_ine, wp_ilt, wp_ige, wp_igt, wp_ile, wp_ceq, wp_cne, wp_clt, wp_cge, wp_cgt, wp_cle, wp_sw, wp_ret0, wp_ret1z, wp_ret1o, wp_ret1, wp_ret2, wp_ret3, wp_ret4, wp_ret5, wp_return, wp_min, wp_max, wp_abs, am_ex, gset_eq, gset_ne, upd_eq, upd_ne, gset_gset, am_ci_1, am_ci_6, am_toList_some, am_toList_none, true_implies, false_implies, and_self, and_true, true_and, not_true_eq_false, not_false_eq_true, imp_self, implies_true, Classical.not_not, if_true, if_false, false_and, and_false, or_false, false_or, true_or, or_true, Nat.reduceAdd, Nat.reduceMul, Nat.reduceSub, Nat.reduceLT, Nat.reduceLeDiff, Nat.reduceEqDiff, Nat.reduceBneDiff, Nat.add_zero, Nat.zero_add, reduceCtorEq, wil0, wal0, wis0, wic0, wil1, wal1, wis1, wic1, wil2, wll2, wal2, wis2, was2, wls2, wic2, wil3, wis3, wic3, wic3m, wic3s, wil4, wis4, wic4, wil5, wis5, wic5, wic5m, wil6, wll6, wal6, wis6, was6, wls6, wic6, wil7, wal7, wis7, was7, wic7, wil8, wis8, wic8, wil9, wis9, wic9, wil10, wis10, wic10, am_nI_inj, am_nI_lt, am_nI_le, nI_add, pk_mul, am_nI_sub, am_add_m1, am_gfs, am_pfs, am_alds, am_asts, am_lens, bs22, am_B22_0, am_B22_14, am_B22_15, am_B22_30, am_B22_31, am_B22_53, am_B22_54, am_B22_70, am_B22_71, am_B22_111, am_B22_112, am_B22_160, am_B22_163, am_B22_169, am_B22_180, am_B22_197, am_B22_205, am_B22_206, am_B22_207, am_B22_216, am_B22_217, am_B22_218, wishT]
  · rw [show am_sw 218 1 6 #[160, 163, 169, 180, 197, 207] (nI 3) = 169 from by decide]
    simp (config := { contextual := true, maxSteps := 1000000 }) (disch := first | exact am_nl_i | exact am_nl_r | exact am_nl_n | exact am_l0 | exact am_l1 | exact am_l2 | exact am_l3 | assumption | omega) only [wp_ldc, wp_sipush, wp_ldc_w, wp_lconst, wp_iadd, wp_isub, wp_imul, wp_iand, wp_ior, wp_ixor, wp_ishl, wp_ishr, wp_iushr, wp_idiv, wp_irem, wp_ineg, wp_i2b, wp_i2s, wp_i2c, wp_i2l, wp_ladd, wp_lmul, wp_lcmp, wp_dup_i, wp_dup_r, wp_dup2, wp_pop, wp_getfield, wp_putfield, wp_getstatic, wp_iaload, wp_baload, wp_aaload, wp_iastore, wp_arraylength, wp_goto, wp_fall, wp_ieq, wp_ine, wp_ilt, wp_ige, wp_igt, wp_ile, wp_ceq, wp_cne, wp_clt, wp_cge, wp_cgt, wp_cle, wp_sw, wp_ret0, wp_ret1z, wp_ret1o, wp_ret1, wp_ret2, wp_ret3, wp_ret4, wp_ret5, wp_return, wp_min, wp_max, wp_abs, am_ex, gset_eq, gset_ne, upd_eq, upd_ne, gset_gset, am_ci_1, am_ci_6, am_toList_some, am_toList_none, true_implies, false_implies, and_self, and_true, true_and, not_true_eq_false, not_false_eq_true, imp_self, implies_true, Classical.not_not, if_true, if_false, false_and, and_false, or_false, false_or, true_or, or_true, Nat.reduceAdd, Nat.reduceMul, Nat.reduceSub, Nat.reduceLT, Nat.reduceLeDiff, Nat.reduceEqDiff, Nat.reduceBneDiff, Nat.add_zero, Nat.zero_add, reduceCtorEq, wil0, wal0, wis0, wic0, wil1, wal1, wis1, wic1, wil2, wll2, wal2, wis2, was2, wls2, wic2, wil3, wis3, wic3, wic3m, wic3s, wil4, wis4, wic4, wil5, wis5, wic5, wic5m, wil6, wll6, wal6, wis6, was6, wls6, wic6, wil7, wal7, wis7, was7, wic7, wil8, wis8, wic8, wil9, wis9, wic9, wil10, wis10, wic10, am_nI_inj, am_nI_lt, am_nI_le, nI_add, pk_mul, am_nI_sub, am_add_m1, am_gfs, am_pfs, am_alds, am_asts, am_lens, bs22, am_B22_0, am_B22_14, am_B22_15, am_B22_30, am_B22_31, am_B22_53, am_B22_54, am_B22_70, am_B22_71, am_B22_111, am_B22_112, am_B22_160, am_B22_163, am_B22_169, am_B22_180, am_B22_197, am_B22_205, am_B22_206, am_B22_207, am_B22_216, am_B22_217, am_B22_218, wishT]
  · rw [show am_sw 218 1 6 #[160, 163, 169, 180, 197, 207] (nI 4) = 180 from by decide]
    simp (config := { contextual := true, maxSteps := 1000000 }) (disch := first | exact am_nl_i | exact am_nl_r | exact am_nl_n | exact am_l0 | exact am_l1 | exact am_l2 | exact am_l3 | assumption | omega) only [wp_ldc, wp_sipush, wp_ldc_w, wp_lconst, wp_iadd, wp_isub, wp_imul, wp_iand, wp_ior, wp_ixor, wp_ishl, wp_ishr, wp_iushr, wp_idiv, wp_irem, wp_ineg, wp_i2b, wp_i2s, wp_i2c, wp_i2l, wp_ladd, wp_lmul, wp_lcmp, wp_dup_i, wp_dup_r, wp_dup2, wp_pop, wp_getfield, wp_putfield, wp_getstatic, wp_iaload, wp_baload, wp_aaload, wp_iastore, wp_arraylength, wp_goto, wp_fall, wp_ieq, wp_ine, wp_ilt, wp_ige, wp_igt, wp_ile, wp_ceq, wp_cne, wp_clt, wp_cge, wp_cgt, wp_cle, wp_sw, wp_ret0, wp_ret1z, wp_ret1o, wp_ret1, wp_ret2, wp_ret3, wp_ret4, wp_ret5, wp_return, wp_min, wp_max, wp_abs, am_ex, gset_eq, gset_ne, upd_eq, upd_ne, gset_gset, am_ci_1, am_ci_6, am_toList_some, am_toList_none, true_implies, false_implies, and_self, and_true, true_and, not_true_eq_false, not_false_eq_true, imp_self, implies_true, Classical.not_not, if_true, if_false, false_and, and_false, or_false, false_or, true_or, or_true, Nat.reduceAdd, Nat.reduceMul, Nat.reduceSub, Nat.reduceLT, Nat.reduceLeDiff, Nat.reduceEqDiff, Nat.reduceBneDiff, Nat.add_zero, Nat.zero_add, reduceCtorEq, wil0, wal0, wis0, wic0, wil1, wal1, wis1, wic1, wil2, wll2, wal2, wis2, was2, wls2, wic2, wil3, wis3, wic3, wic3m, wic3s, wil4, wis4, wic4, wil5, wis5, wic5, wic5m, wil6, wll6, wal6, wis6, was6, wls6, wic6, wil7, wal7, wis7, was7, wic7, wil8, wis8, wic8, wil9, wis9, wic9, wil10, wis10, wic10, am_nI_inj, am_nI_lt, am_nI_le, nI_add, pk_mul, am_nI_sub, am_add_m1, am_gfs, am_pfs, am_alds, am_asts, am_lens, bs22, am_B22_0, am_B22_14, am_B22_15, am_B22_30, am_B22_31, am_B22_53, am_B22_54, am_B22_70, am_B22_71, am_B22_111, am_B22_112, am_B22_160, am_B22_163, am_B22_169, am_B22_180, am_B22_197, am_B22_205, am_B22_206, am_B22_207, am_B22_216, am_B22_217, am_B22_218, wishT]
  · rw [show am_sw 218 1 6 #[160, 163, 169, 180, 197, 207] (nI 5) = 197 from by decide]
    cases isP
    · simp (config := { contextual := true, maxSteps := 1000000 }) (disch := first | exact am_nl_i | exact am_nl_r | exact am_nl_n | exact am_l0 | exact am_l1 | exact am_l2 | exact am_l3 | assumption | omega) only [wp_ldc, wp_sipush, wp_ldc_w, wp_lconst, wp_iadd, wp_isub, wp_imul, wp_iand, wp_ior, wp_ixor, wp_ishl, wp_ishr, wp_iushr, wp_idiv, wp_irem, wp_ineg, wp_i2b, wp_i2s, wp_i2c, wp_i2l, wp_ladd, wp_lmul, wp_lcmp, wp_dup_i, wp_dup_r, wp_dup2, wp_pop, wp_getfield, wp_putfield, wp_getstatic, wp_iaload, wp_baload, wp_aaload, wp_iastore, wp_arraylength, wp_goto, wp_fall, wp_ieq, wp_ine, wp_ilt, wp_ige, wp_igt, wp_ile, wp_ceq, wp_cne, wp_clt, wp_cge, wp_cgt, wp_cle, wp_sw, wp_ret0, wp_ret1z, wp_ret1o, wp_ret1, wp_ret2, wp_ret3, wp_ret4, wp_ret5, wp_return, wp_min, wp_max, wp_abs, am_ex, gset_eq, gset_ne, upd_eq, upd_ne, gset_gset, am_ci_1, am_ci_6, am_toList_some, am_toList_none, true_implies, false_implies, and_self, and_true, true_and, not_true_eq_false, not_false_eq_true, imp_self, implies_true, Classical.not_not, if_true, if_false, false_and, and_false, or_false, false_or, true_or, or_true, Nat.reduceAdd, Nat.reduceMul, Nat.reduceSub, Nat.reduceLT, Nat.reduceLeDiff, Nat.reduceEqDiff, Nat.reduceBneDiff, Nat.add_zero, Nat.zero_add, reduceCtorEq, wil0, wal0, wis0, wic0, wil1, wal1, wis1, wic1, wil2, wll2, wal2, wis2, was2, wls2, wic2, wil3, wis3, wic3, wic3m, wic3s, wil4, wis4, wic4, wil5, wis5, wic5, wic5m, wil6, wll6, wal6, wis6, was6, wls6, wic6, wil7, wal7, wis7, was7, wic7, wil8, wis8, wic8, wil9, wis9, wic9, wil10, wis10, wic10, am_nI_inj, am_nI_lt, am_nI_le, nI_add, pk_mul, am_nI_sub, am_add_m1, am_gfs, am_pfs, am_alds, am_asts, am_lens, bs22, am_B22_0, am_B22_14, am_B22_15, am_B22_30, am_B22_31, am_B22_53, am_B22_54, am_B22_70, am_B22_71, am_B22_111, am_B22_112, am_B22_160, am_B22_163, am_B22_169, am_B22_180, am_B22_197, am_B22_205, am_B22_206, am_B22_207, am_B22_216, am_B22_217, am_B22_218, wishT, bI_f]
    · have e : ¬ nI 1 = nI 0 := by decide
      simp (config := { contextual := true, maxSteps := 1000000 }) (disch := first | exact am_nl_i | exact am_nl_r | exact am_nl_n | exact am_l0 | exact am_l1 | exact am_l2 | exact am_l3 | assumption | omega) only [wp_ldc, wp_sipush, wp_ldc_w, wp_lconst, wp_iadd, wp_isub, wp_imul, wp_iand, wp_ior, wp_ixor, wp_ishl, wp_ishr, wp_iushr, wp_idiv, wp_irem, wp_ineg, wp_i2b, wp_i2s, wp_i2c, wp_i2l, wp_ladd, wp_lmul, wp_lcmp, wp_dup_i, wp_dup_r, wp_dup2, wp_pop, wp_getfield, wp_putfield, wp_getstatic, wp_iaload, wp_baload, wp_aaload, wp_iastore, wp_arraylength, wp_goto, wp_fall, wp_ieq, wp_ine, wp_ilt, wp_ige, wp_igt, wp_ile, wp_ceq, wp_cne, wp_clt, wp_cge, wp_cgt, wp_cle, wp_sw, wp_ret0, wp_ret1z, wp_ret1o, wp_ret1, wp_ret2, wp_ret3, wp_ret4, wp_ret5, wp_return, wp_min, wp_max, wp_abs, am_ex, gset_eq, gset_ne, upd_eq, upd_ne, gset_gset, am_ci_1, am_ci_6, am_toList_some, am_toList_none, true_implies, false_implies, and_self, and_true, true_and, not_true_eq_false, not_false_eq_true, imp_self, implies_true, Classical.not_not, if_true, if_false, false_and, and_false, or_false, false_or, true_or, or_true, Nat.reduceAdd, Nat.reduceMul, Nat.reduceSub, Nat.reduceLT, Nat.reduceLeDiff, Nat.reduceEqDiff, Nat.reduceBneDiff, Nat.add_zero, Nat.zero_add, reduceCtorEq, wil0, wal0, wis0, wic0, wil1, wal1, wis1, wic1, wil2, wll2, wal2, wis2, was2, wls2, wic2, wil3, wis3, wic3, wic3m, wic3s, wil4, wis4, wic4, wil5, wis5, wic5, wic5m, wil6, wll6, wal6, wis6, was6, wls6, wic6, wil7, wal7, wis7, was7, wic7, wil8, wis8, wic8, wil9, wis9, wic9, wil10, wis10, wic10, am_nI_inj, am_nI_lt, am_nI_le, nI_add, pk_mul, am_nI_sub, am_add_m1, am_gfs, am_pfs, am_alds, am_asts, am_lens, bs22, am_B22_0, am_B22_14, am_B22_15, am_B22_30, am_B22_31, am_B22_53, am_B22_54, am_B22_70, am_B22_71, am_B22_111, am_B22_112, am_B22_160, am_B22_163, am_B22_169, am_B22_180, am_B22_197, am_B22_205, am_B22_206, am_B22_207, am_B22_216, am_B22_217, am_B22_218, wishT, bI_t, e]
  · rw [show am_sw 218 1 6 #[160, 163, 169, 180, 197, 207] (nI 6) = 207 from by decide]
    cases isP
    · simp (config := { contextual := true, maxSteps := 1000000 }) (disch := first | exact am_nl_i | exact am_nl_r | exact am_nl_n | exact am_l0 | exact am_l1 | exact am_l2 | exact am_l3 | assumption | omega) only [wp_ldc, wp_sipush, wp_ldc_w, wp_lconst, wp_iadd, wp_isub, wp_imul, wp_iand, wp_ior, wp_ixor, wp_ishl, wp_ishr, wp_iushr, wp_idiv, wp_irem, wp_ineg, wp_i2b, wp_i2s, wp_i2c, wp_i2l, wp_ladd, wp_lmul, wp_lcmp, wp_dup_i, wp_dup_r, wp_dup2, wp_pop, wp_getfield, wp_putfield, wp_getstatic, wp_iaload, wp_baload, wp_aaload, wp_iastore, wp_arraylength, wp_goto, wp_fall, wp_ieq, wp_ine, wp_ilt, wp_ige, wp_igt, wp_ile, wp_ceq, wp_cne, wp_clt, wp_cge, wp_cgt, wp_cle, wp_sw, wp_ret0, wp_ret1z, wp_ret1o, wp_ret1, wp_ret2, wp_ret3, wp_ret4, wp_ret5, wp_return, wp_min, wp_max, wp_abs, am_ex, gset_eq, gset_ne, upd_eq, upd_ne, gset_gset, am_ci_1, am_ci_6, am_toList_some, am_toList_none, true_implies, false_implies, and_self, and_true, true_and, not_true_eq_false, not_false_eq_true, imp_self, implies_true, Classical.not_not, if_true, if_false, false_and, and_false, or_false, false_or, true_or, or_true, Nat.reduceAdd, Nat.reduceMul, Nat.reduceSub, Nat.reduceLT, Nat.reduceLeDiff, Nat.reduceEqDiff, Nat.reduceBneDiff, Nat.add_zero, Nat.zero_add, reduceCtorEq, wil0, wal0, wis0, wic0, wil1, wal1, wis1, wic1, wil2, wll2, wal2, wis2, was2, wls2, wic2, wil3, wis3, wic3, wic3m, wic3s, wil4, wis4, wic4, wil5, wis5, wic5, wic5m, wil6, wll6, wal6, wis6, was6, wls6, wic6, wil7, wal7, wis7, was7, wic7, wil8, wis8, wic8, wil9, wis9, wic9, wil10, wis10, wic10, am_nI_inj, am_nI_lt, am_nI_le, nI_add, pk_mul, am_nI_sub, am_add_m1, am_gfs, am_pfs, am_alds, am_asts, am_lens, bs22, am_B22_0, am_B22_14, am_B22_15, am_B22_30, am_B22_31, am_B22_53, am_B22_54, am_B22_70, am_B22_71, am_B22_111, am_B22_112, am_B22_160, am_B22_163, am_B22_169, am_B22_180, am_B22_197, am_B22_205, am_B22_206, am_B22_207, am_B22_216, am_B22_217, am_B22_218, wishT, bI_f]
      try simp
    · have e : ¬ nI 1 = nI 0 := by decide
      simp (config := { contextual := true, maxSteps := 1000000 }) (disch := first | exact am_nl_i | exact am_nl_r | exact am_nl_n | exact am_l0 | exact am_l1 | exact am_l2 | exact am_l3 | assumption | omega) only [wp_ldc, wp_sipush, wp_ldc_w, wp_lconst, wp_iadd, wp_isub, wp_imul, wp_iand, wp_ior, wp_ixor, wp_ishl, wp_ishr, wp_iushr, wp_idiv, wp_irem, wp_ineg, wp_i2b, wp_i2s, wp_i2c, wp_i2l, wp_ladd, wp_lmul, wp_lcmp, wp_dup_i, wp_dup_r, wp_dup2, wp_pop, wp_getfield, wp_putfield, wp_getstatic, wp_iaload, wp_baload, wp_aaload, wp_iastore, wp_arraylength, wp_goto, wp_fall, wp_ieq, wp_ine, wp_ilt, wp_ige, wp_igt, wp_ile, wp_ceq, wp_cne, wp_clt, wp_cge, wp_cgt, wp_cle, wp_sw, wp_ret0, wp_ret1z, wp_ret1o, wp_ret1, wp_ret2, wp_ret3, wp_ret4, wp_ret5, wp_return, wp_min, wp_max, wp_abs, am_ex, gset_eq, gset_ne, upd_eq, upd_ne, gset_gset, am_ci_1, am_ci_6, am_toList_some, am_toList_none, true_implies, false_implies, and_self, and_true, true_and, not_true_eq_false, not_false_eq_true, imp_self, implies_true, Classical.not_not, if_true, if_false, false_and, and_false, or_false, false_or, true_or, or_true, Nat.reduceAdd, Nat.reduceMul, Nat.reduceSub, Nat.reduceLT, Nat.reduceLeDiff, Nat.reduceEqDiff, Nat.reduceBneDiff, Nat.add_zero, Nat.zero_add, reduceCtorEq, wil0, wal0, wis0, wic0, wil1, wal1, wis1, wic1, wil2, wll2, wal2, wis2, was2, wls2, wic2, wil3, wis3, wic3, wic3m, wic3s, wil4, wis4, wic4, wil5, wis5, wic5, wic5m, wil6, wll6, wal6, wis6, was6, wls6, wic6, wil7, wal7, wis7, was7, wic7, wil8, wis8, wic8, wil9, wis9, wic9, wil10, wis10, wic10, am_nI_inj, am_nI_lt, am_nI_le, nI_add, pk_mul, am_nI_sub, am_add_m1, am_gfs, am_pfs, am_alds, am_asts, am_lens, bs22, am_B22_0, am_B22_14, am_B22_15, am_B22_30, am_B22_31, am_B22_53, am_B22_54, am_B22_70, am_B22_71, am_B22_111, am_B22_112, am_B22_160, am_B22_163, am_B22_169, am_B22_180, am_B22_197, am_B22_205, am_B22_206, am_B22_207, am_B22_216, am_B22_217, am_B22_218, wishT, bI_t, e]
theorem E_X3_wishAt {X : AmX} {G : GG} (b n i p : Nat) (T : TT) (t : Nat) (z : Int32) (hb : TB b) (hE : TE G b n T t z) (hV : TV n T) (hP : PL G b n T) (hi : i < n) (hp : p < 8) : Ev X 22 [.ref b, .int (nI i), .int (nI p)] G (some (.int (wishN T n i p))) (G) := by
  have hb5 : b < 500 := hb.lt
  refine Ev_of ?_
  show WP X 22 (am_blk 22 0) [some (.ref b), some (.int (nI i)), some (.int (nI p)), none, none, none, none, none, none] [] G _
  obtain ⟨a0, a1, a2, a3, a4, a5, a6, a7, a8, a9⟩ := hE
  obtain ⟨v1, v2, v3, v4⟩ := hV
  obtain ⟨b1, b2, b3, b4, b5⟩ := v3 i hi
  have hi8 : i < 8 := by omega
  have f1 := a3 p hp
  have f2 := a4 i hi
  have f3 := a5 i hi
  have f4 := a7 i hi
  have f5 := hP p hp
  have hcl := cntN_le (T 2) p n
  clear hP
  have ho8 : othN T n i p ≤ 8 := by unfold othN; omega
  have hfA : T 2 i = p → G (b + 8) p = nI (othN T n i p + 1) := by
    intro hA
    have := cntN_pos (f := T 2) hA n hi
    rw [f5]
    unfold othN
    rw [if_pos hA, Nat.sub_add_cancel this]
  have hfB : ¬ T 2 i = p → G (b + 8) p = nI (othN T n i p) := by
    intro hA
    rw [f5]
    unfold othN
    rw [if_neg hA, Nat.sub_zero]
  unfold wishN
  generalize othN T n i p = o at ho8 hfA hfB ⊢
  have ho1 : (o + 1 = 0) = False := eq_false (by omega)
  have ho0 : (o < 0) = False := eq_false (by omega)
  have e10 : (nI 1 = nI 0) = False := eq_false (by decide)
  by_cases hA : T 2 i = p
  · skip
    by_cases h0 : o = 0
    · subst h0
      have h0 : (0 : Nat) = 0 := rfl
      by_cases hL : T 4 i = 8
      · rw [hL, eP_8] at f4
        have f5 := hfA hA
        have g : flN T i p = false := by unfold flN; rw [hL]; simp
        rw [g, decide_eq_true hA]
        simp (config := { maxSteps := 1000000 }) (disch := first | exact am_nl_i | exact am_nl_r | exact am_nl_n | exact am_l0 | exact am_l1 | exact am_l2 | exact am_l3 | assumption | omega) only [wp_ldc, wp_sipush, wp_ldc_w, wp_lconst, wp_iadd, wp_isub, wp_imul, wp_iand, wp_ior, wp_ixor, wp_ishl, wp_ishr, wp_iushr, wp_idiv, wp_irem, wp_ineg, wp_i2b, wp_i2s, wp_i2c, wp_i2l, wp_ladd, wp_lmul, wp_lcmp, wp_dup_i, wp_dup_r, wp_dup2, wp_pop, wp_getfield, wp_putfield, wp_getstatic, wp_iaload, wp_baload, wp_aaload, wp_iastore, wp_arraylength, wp_goto, wp_fall, wp_ieq, wp_ine, wp_ilt, wp_ige, wp_igt, wp_ile, wp_ceq, wp_cne, wp_clt, wp_cge, wp_cgt, wp_cle, wp_sw, wp_ret0, wp_ret1z, wp_ret1o, wp_ret1, wp_ret2, wp_ret3, wp_ret4, wp_ret5, wp_return, wp_min, wp_max, wp_abs, am_ex, gset_eq, gset_ne, upd_eq, upd_ne, gset_gset, am_ci_1, am_ci_6, am_toList_some, am_toList_none, true_implies, false_implies, and_self, and_true, true_and, not_true_eq_false, not_false_eq_true, imp_self, implies_true, Classical.not_not, if_true, if_false, false_and, and_false, or_false, false_or, true_or, or_true, Nat.reduceAdd, Nat.reduceMul, Nat.reduceSub, Nat.reduceLT, Nat.reduceLeDiff, Nat.reduceEqDiff, Nat.reduceBneDiff, Nat.add_zero, Nat.zero_add, reduceCtorEq, wil0, wal0, wis0, wic0, wil1, wal1, wis1, wic1, wil2, wll2, wal2, wis2, was2, wls2, wic2, wil3, wis3, wic3, wic3m, wic3s, wil4, wis4, wic4, wil5, wis5, wic5, wic5m, wil6, wll6, wal6, wis6, was6, wls6, wic6, wil7, wal7, wis7, was7, wic7, wil8, wis8, wic8, wil9, wis9, wic9, wil10, wis10, wic10, am_nI_inj, am_nI_lt, am_nI_le, nI_add, pk_mul, am_nI_sub, am_add_m1, am_gfs, am_pfs, am_alds, am_asts, am_lens, tgf0, tgf1, tgf2, tgf3, tgf4, tgf5, tgf6, tgf7, tgf8, tgf9, tgf10, tgf11, tgf12, tpf7, tpf8, tpf9, tal0, tas0, tln0, tal1, tas1, tln1, tal2, tas2, tln2, tal3, tas3, tln3, tal4, tas4, tln4, tal5, tas5, tln5, tal6, tas6, tln6, tal7, tas7, tln7, tal8, tas8, tln8, tal9, tas9, tln9, bk22_0, bk22_14, bk22_15, bk22_30, bk22_31, bk22_53, bk22_54, bk22_70, bk22_71, bk22_111, bk22_112, am_B22_0, am_B22_14, am_B22_15, am_B22_30, am_B22_31, am_B22_53, am_B22_54, am_B22_70, am_B22_71, am_B22_111, am_B22_112, a0, f1, f2, f3, f4, f5, eP_eq, hA, Nat.add_one_sub_one, Nat.sub_zero, e10, ho1, ho0, nM_lt, Nat.not_lt_zero, Nat.zero_add, eq_self, h0]
        exact (wish_tail (T 1 i) 0 true false b1).mpr ⟨rfl, rfl⟩
      · rw [eP_lt hL] at f4
        have hLn : T 4 i < n := by omega
        have f6 := a5 (T 4 i) hLn
        have hb2 := (v3 (T 4 i) hLn).2.1
        have hL0 : (T 4 i < 0) = False := eq_false (by omega)
        have hL1 : (n ≤ T 4 i) = False := eq_false (by omega)
        by_cases hF : T 2 (T 4 i) = p
        · skip
          have f5 := hfA hA
          have g : flN T i p = true := by unfold flN; simp only [hF, and_true, decide_eq_true_eq]; omega
          rw [g, decide_eq_true hA]
          simp (config := { maxSteps := 1000000 }) (disch := first | exact am_nl_i | exact am_nl_r | exact am_nl_n | exact am_l0 | exact am_l1 | exact am_l2 | exact am_l3 | assumption | omega) only [wp_ldc, wp_sipush, wp_ldc_w, wp_lconst, wp_iadd, wp_isub, wp_imul, wp_iand, wp_ior, wp_ixor, wp_ishl, wp_ishr, wp_iushr, wp_idiv, wp_irem, wp_ineg, wp_i2b, wp_i2s, wp_i2c, wp_i2l, wp_ladd, wp_lmul, wp_lcmp, wp_dup_i, wp_dup_r, wp_dup2, wp_pop, wp_getfield, wp_putfield, wp_getstatic, wp_iaload, wp_baload, wp_aaload, wp_iastore, wp_arraylength, wp_goto, wp_fall, wp_ieq, wp_ine, wp_ilt, wp_ige, wp_igt, wp_ile, wp_ceq, wp_cne, wp_clt, wp_cge, wp_cgt, wp_cle, wp_sw, wp_ret0, wp_ret1z, wp_ret1o, wp_ret1, wp_ret2, wp_ret3, wp_ret4, wp_ret5, wp_return, wp_min, wp_max, wp_abs, am_ex, gset_eq, gset_ne, upd_eq, upd_ne, gset_gset, am_ci_1, am_ci_6, am_toList_some, am_toList_none, true_implies, false_implies, and_self, and_true, true_and, not_true_eq_false, not_false_eq_true, imp_self, implies_true, Classical.not_not, if_true, if_false, false_and, and_false, or_false, false_or, true_or, or_true, Nat.reduceAdd, Nat.reduceMul, Nat.reduceSub, Nat.reduceLT, Nat.reduceLeDiff, Nat.reduceEqDiff, Nat.reduceBneDiff, Nat.add_zero, Nat.zero_add, reduceCtorEq, wil0, wal0, wis0, wic0, wil1, wal1, wis1, wic1, wil2, wll2, wal2, wis2, was2, wls2, wic2, wil3, wis3, wic3, wic3m, wic3s, wil4, wis4, wic4, wil5, wis5, wic5, wic5m, wil6, wll6, wal6, wis6, was6, wls6, wic6, wil7, wal7, wis7, was7, wic7, wil8, wis8, wic8, wil9, wis9, wic9, wil10, wis10, wic10, am_nI_inj, am_nI_lt, am_nI_le, nI_add, pk_mul, am_nI_sub, am_add_m1, am_gfs, am_pfs, am_alds, am_asts, am_lens, tgf0, tgf1, tgf2, tgf3, tgf4, tgf5, tgf6, tgf7, tgf8, tgf9, tgf10, tgf11, tgf12, tpf7, tpf8, tpf9, tal0, tas0, tln0, tal1, tas1, tln1, tal2, tas2, tln2, tal3, tas3, tln3, tal4, tas4, tln4, tal5, tas5, tln5, tal6, tas6, tln6, tal7, tas7, tln7, tal8, tas8, tln8, tal9, tas9, tln9, bk22_0, bk22_14, bk22_15, bk22_30, bk22_31, bk22_53, bk22_54, bk22_70, bk22_71, bk22_111, bk22_112, am_B22_0, am_B22_14, am_B22_15, am_B22_30, am_B22_31, am_B22_53, am_B22_54, am_B22_70, am_B22_71, am_B22_111, am_B22_112, a0, f1, f2, f3, f4, f5, eP_eq, hA, Nat.add_one_sub_one, Nat.sub_zero, e10, ho1, ho0, nM_lt, Nat.not_lt_zero, Nat.zero_add, eq_self, f6, hF, hL0, hL1, h0]
          exact (wish_tail (T 1 i) 0 true true b1).mpr ⟨rfl, rfl⟩
        · skip
          have f5 := hfA hA
          have g : flN T i p = false := by unfold flN; simp [hF]
          rw [g, decide_eq_true hA]
          simp (config := { maxSteps := 1000000 }) (disch := first | exact am_nl_i | exact am_nl_r | exact am_nl_n | exact am_l0 | exact am_l1 | exact am_l2 | exact am_l3 | assumption | omega) only [wp_ldc, wp_sipush, wp_ldc_w, wp_lconst, wp_iadd, wp_isub, wp_imul, wp_iand, wp_ior, wp_ixor, wp_ishl, wp_ishr, wp_iushr, wp_idiv, wp_irem, wp_ineg, wp_i2b, wp_i2s, wp_i2c, wp_i2l, wp_ladd, wp_lmul, wp_lcmp, wp_dup_i, wp_dup_r, wp_dup2, wp_pop, wp_getfield, wp_putfield, wp_getstatic, wp_iaload, wp_baload, wp_aaload, wp_iastore, wp_arraylength, wp_goto, wp_fall, wp_ieq, wp_ine, wp_ilt, wp_ige, wp_igt, wp_ile, wp_ceq, wp_cne, wp_clt, wp_cge, wp_cgt, wp_cle, wp_sw, wp_ret0, wp_ret1z, wp_ret1o, wp_ret1, wp_ret2, wp_ret3, wp_ret4, wp_ret5, wp_return, wp_min, wp_max, wp_abs, am_ex, gset_eq, gset_ne, upd_eq, upd_ne, gset_gset, am_ci_1, am_ci_6, am_toList_some, am_toList_none, true_implies, false_implies, and_self, and_true, true_and, not_true_eq_false, not_false_eq_true, imp_self, implies_true, Classical.not_not, if_true, if_false, false_and, and_false, or_false, false_or, true_or, or_true, Nat.reduceAdd, Nat.reduceMul, Nat.reduceSub, Nat.reduceLT, Nat.reduceLeDiff, Nat.reduceEqDiff, Nat.reduceBneDiff, Nat.add_zero, Nat.zero_add, reduceCtorEq, wil0, wal0, wis0, wic0, wil1, wal1, wis1, wic1, wil2, wll2, wal2, wis2, was2, wls2, wic2, wil3, wis3, wic3, wic3m, wic3s, wil4, wis4, wic4, wil5, wis5, wic5, wic5m, wil6, wll6, wal6, wis6, was6, wls6, wic6, wil7, wal7, wis7, was7, wic7, wil8, wis8, wic8, wil9, wis9, wic9, wil10, wis10, wic10, am_nI_inj, am_nI_lt, am_nI_le, nI_add, pk_mul, am_nI_sub, am_add_m1, am_gfs, am_pfs, am_alds, am_asts, am_lens, tgf0, tgf1, tgf2, tgf3, tgf4, tgf5, tgf6, tgf7, tgf8, tgf9, tgf10, tgf11, tgf12, tpf7, tpf8, tpf9, tal0, tas0, tln0, tal1, tas1, tln1, tal2, tas2, tln2, tal3, tas3, tln3, tal4, tas4, tln4, tal5, tas5, tln5, tal6, tas6, tln6, tal7, tas7, tln7, tal8, tas8, tln8, tal9, tas9, tln9, bk22_0, bk22_14, bk22_15, bk22_30, bk22_31, bk22_53, bk22_54, bk22_70, bk22_71, bk22_111, bk22_112, am_B22_0, am_B22_14, am_B22_15, am_B22_30, am_B22_31, am_B22_53, am_B22_54, am_B22_70, am_B22_71, am_B22_111, am_B22_112, a0, f1, f2, f3, f4, f5, eP_eq, hA, Nat.add_one_sub_one, Nat.sub_zero, e10, ho1, ho0, nM_lt, Nat.not_lt_zero, Nat.zero_add, eq_self, f6, hF, hL0, hL1, h0]
          exact (wish_tail (T 1 i) 0 true false b1).mpr ⟨rfl, rfl⟩
    · skip
      by_cases hL : T 4 i = 8
      · rw [hL, eP_8] at f4
        have f5 := hfA hA
        have g : flN T i p = false := by unfold flN; rw [hL]; simp
        rw [g, decide_eq_true hA]
        simp (config := { maxSteps := 1000000 }) (disch := first | exact am_nl_i | exact am_nl_r | exact am_nl_n | exact am_l0 | exact am_l1 | exact am_l2 | exact am_l3 | assumption | omega) only [wp_ldc, wp_sipush, wp_ldc_w, wp_lconst, wp_iadd, wp_isub, wp_imul, wp_iand, wp_ior, wp_ixor, wp_ishl, wp_ishr, wp_iushr, wp_idiv, wp_irem, wp_ineg, wp_i2b, wp_i2s, wp_i2c, wp_i2l, wp_ladd, wp_lmul, wp_lcmp, wp_dup_i, wp_dup_r, wp_dup2, wp_pop, wp_getfield, wp_putfield, wp_getstatic, wp_iaload, wp_baload, wp_aaload, wp_iastore, wp_arraylength, wp_goto, wp_fall, wp_ieq, wp_ine, wp_ilt, wp_ige, wp_igt, wp_ile, wp_ceq, wp_cne, wp_clt, wp_cge, wp_cgt, wp_cle, wp_sw, wp_ret0, wp_ret1z, wp_ret1o, wp_ret1, wp_ret2, wp_ret3, wp_ret4, wp_ret5, wp_return, wp_min, wp_max, wp_abs, am_ex, gset_eq, gset_ne, upd_eq, upd_ne, gset_gset, am_ci_1, am_ci_6, am_toList_some, am_toList_none, true_implies, false_implies, and_self, and_true, true_and, not_true_eq_false, not_false_eq_true, imp_self, implies_true, Classical.not_not, if_true, if_false, false_and, and_false, or_false, false_or, true_or, or_true, Nat.reduceAdd, Nat.reduceMul, Nat.reduceSub, Nat.reduceLT, Nat.reduceLeDiff, Nat.reduceEqDiff, Nat.reduceBneDiff, Nat.add_zero, Nat.zero_add, reduceCtorEq, wil0, wal0, wis0, wic0, wil1, wal1, wis1, wic1, wil2, wll2, wal2, wis2, was2, wls2, wic2, wil3, wis3, wic3, wic3m, wic3s, wil4, wis4, wic4, wil5, wis5, wic5, wic5m, wil6, wll6, wal6, wis6, was6, wls6, wic6, wil7, wal7, wis7, was7, wic7, wil8, wis8, wic8, wil9, wis9, wic9, wil10, wis10, wic10, am_nI_inj, am_nI_lt, am_nI_le, nI_add, pk_mul, am_nI_sub, am_add_m1, am_gfs, am_pfs, am_alds, am_asts, am_lens, tgf0, tgf1, tgf2, tgf3, tgf4, tgf5, tgf6, tgf7, tgf8, tgf9, tgf10, tgf11, tgf12, tpf7, tpf8, tpf9, tal0, tas0, tln0, tal1, tas1, tln1, tal2, tas2, tln2, tal3, tas3, tln3, tal4, tas4, tln4, tal5, tas5, tln5, tal6, tas6, tln6, tal7, tas7, tln7, tal8, tas8, tln8, tal9, tas9, tln9, bk22_0, bk22_14, bk22_15, bk22_30, bk22_31, bk22_53, bk22_54, bk22_70, bk22_71, bk22_111, bk22_112, am_B22_0, am_B22_14, am_B22_15, am_B22_30, am_B22_31, am_B22_53, am_B22_54, am_B22_70, am_B22_71, am_B22_111, am_B22_112, a0, f1, f2, f3, f4, f5, eP_eq, hA, Nat.add_one_sub_one, Nat.sub_zero, e10, ho1, ho0, nM_lt, Nat.not_lt_zero, Nat.zero_add, eq_self, h0]
        exact (wish_tail (T 1 i) o true false b1).mpr ⟨rfl, rfl⟩
      · rw [eP_lt hL] at f4
        have hLn : T 4 i < n := by omega
        have f6 := a5 (T 4 i) hLn
        have hb2 := (v3 (T 4 i) hLn).2.1
        have hL0 : (T 4 i < 0) = False := eq_false (by omega)
        have hL1 : (n ≤ T 4 i) = False := eq_false (by omega)
        by_cases hF : T 2 (T 4 i) = p
        · skip
          have f5 := hfA hA
          have g : flN T i p = true := by unfold flN; simp only [hF, and_true, decide_eq_true_eq]; omega
          rw [g, decide_eq_true hA]
          simp (config := { maxSteps := 1000000 }) (disch := first | exact am_nl_i | exact am_nl_r | exact am_nl_n | exact am_l0 | exact am_l1 | exact am_l2 | exact am_l3 | assumption | omega) only [wp_ldc, wp_sipush, wp_ldc_w, wp_lconst, wp_iadd, wp_isub, wp_imul, wp_iand, wp_ior, wp_ixor, wp_ishl, wp_ishr, wp_iushr, wp_idiv, wp_irem, wp_ineg, wp_i2b, wp_i2s, wp_i2c, wp_i2l, wp_ladd, wp_lmul, wp_lcmp, wp_dup_i, wp_dup_r, wp_dup2, wp_pop, wp_getfield, wp_putfield, wp_getstatic, wp_iaload, wp_baload, wp_aaload, wp_iastore, wp_arraylength, wp_goto, wp_fall, wp_ieq, wp_ine, wp_ilt, wp_ige, wp_igt, wp_ile, wp_ceq, wp_cne, wp_clt, wp_cge, wp_cgt, wp_cle, wp_sw, wp_ret0, wp_ret1z, wp_ret1o, wp_ret1, wp_ret2, wp_ret3, wp_ret4, wp_ret5, wp_return, wp_min, wp_max, wp_abs, am_ex, gset_eq, gset_ne, upd_eq, upd_ne, gset_gset, am_ci_1, am_ci_6, am_toList_some, am_toList_none, true_implies, false_implies, and_self, and_true, true_and, not_true_eq_false, not_false_eq_true, imp_self, implies_true, Classical.not_not, if_true, if_false, false_and, and_false, or_false, false_or, true_or, or_true, Nat.reduceAdd, Nat.reduceMul, Nat.reduceSub, Nat.reduceLT, Nat.reduceLeDiff, Nat.reduceEqDiff, Nat.reduceBneDiff, Nat.add_zero, Nat.zero_add, reduceCtorEq, wil0, wal0, wis0, wic0, wil1, wal1, wis1, wic1, wil2, wll2, wal2, wis2, was2, wls2, wic2, wil3, wis3, wic3, wic3m, wic3s, wil4, wis4, wic4, wil5, wis5, wic5, wic5m, wil6, wll6, wal6, wis6, was6, wls6, wic6, wil7, wal7, wis7, was7, wic7, wil8, wis8, wic8, wil9, wis9, wic9, wil10, wis10, wic10, am_nI_inj, am_nI_lt, am_nI_le, nI_add, pk_mul, am_nI_sub, am_add_m1, am_gfs, am_pfs, am_alds, am_asts, am_lens, tgf0, tgf1, tgf2, tgf3, tgf4, tgf5, tgf6, tgf7, tgf8, tgf9, tgf10, tgf11, tgf12, tpf7, tpf8, tpf9, tal0, tas0, tln0, tal1, tas1, tln1, tal2, tas2, tln2, tal3, tas3, tln3, tal4, tas4, tln4, tal5, tas5, tln5, tal6, tas6, tln6, tal7, tas7, tln7, tal8, tas8, tln8, tal9, tas9, tln9, bk22_0, bk22_14, bk22_15, bk22_30, bk22_31, bk22_53, bk22_54, bk22_70, bk22_71, bk22_111, bk22_112, am_B22_0, am_B22_14, am_B22_15, am_B22_30, am_B22_31, am_B22_53, am_B22_54, am_B22_70, am_B22_71, am_B22_111, am_B22_112, a0, f1, f2, f3, f4, f5, eP_eq, hA, Nat.add_one_sub_one, Nat.sub_zero, e10, ho1, ho0, nM_lt, Nat.not_lt_zero, Nat.zero_add, eq_self, f6, hF, hL0, hL1, h0]
          exact (wish_tail (T 1 i) o true true b1).mpr ⟨rfl, rfl⟩
        · skip
          have f5 := hfA hA
          have g : flN T i p = false := by unfold flN; simp [hF]
          rw [g, decide_eq_true hA]
          simp (config := { maxSteps := 1000000 }) (disch := first | exact am_nl_i | exact am_nl_r | exact am_nl_n | exact am_l0 | exact am_l1 | exact am_l2 | exact am_l3 | assumption | omega) only [wp_ldc, wp_sipush, wp_ldc_w, wp_lconst, wp_iadd, wp_isub, wp_imul, wp_iand, wp_ior, wp_ixor, wp_ishl, wp_ishr, wp_iushr, wp_idiv, wp_irem, wp_ineg, wp_i2b, wp_i2s, wp_i2c, wp_i2l, wp_ladd, wp_lmul, wp_lcmp, wp_dup_i, wp_dup_r, wp_dup2, wp_pop, wp_getfield, wp_putfield, wp_getstatic, wp_iaload, wp_baload, wp_aaload, wp_iastore, wp_arraylength, wp_goto, wp_fall, wp_ieq, wp_ine, wp_ilt, wp_ige, wp_igt, wp_ile, wp_ceq, wp_cne, wp_clt, wp_cge, wp_cgt, wp_cle, wp_sw, wp_ret0, wp_ret1z, wp_ret1o, wp_ret1, wp_ret2, wp_ret3, wp_ret4, wp_ret5, wp_return, wp_min, wp_max, wp_abs, am_ex, gset_eq, gset_ne, upd_eq, upd_ne, gset_gset, am_ci_1, am_ci_6, am_toList_some, am_toList_none, true_implies, false_implies, and_self, and_true, true_and, not_true_eq_false, not_false_eq_true, imp_self, implies_true, Classical.not_not, if_true, if_false, false_and, and_false, or_false, false_or, true_or, or_true, Nat.reduceAdd, Nat.reduceMul, Nat.reduceSub, Nat.reduceLT, Nat.reduceLeDiff, Nat.reduceEqDiff, Nat.reduceBneDiff, Nat.add_zero, Nat.zero_add, reduceCtorEq, wil0, wal0, wis0, wic0, wil1, wal1, wis1, wic1, wil2, wll2, wal2, wis2, was2, wls2, wic2, wil3, wis3, wic3, wic3m, wic3s, wil4, wis4, wic4, wil5, wis5, wic5, wic5m, wil6, wll6, wal6, wis6, was6, wls6, wic6, wil7, wal7, wis7, was7, wic7, wil8, wis8, wic8, wil9, wis9, wic9, wil10, wis10, wic10, am_nI_inj, am_nI_lt, am_nI_le, nI_add, pk_mul, am_nI_sub, am_add_m1, am_gfs, am_pfs, am_alds, am_asts, am_lens, tgf0, tgf1, tgf2, tgf3, tgf4, tgf5, tgf6, tgf7, tgf8, tgf9, tgf10, tgf11, tgf12, tpf7, tpf8, tpf9, tal0, tas0, tln0, tal1, tas1, tln1, tal2, tas2, tln2, tal3, tas3, tln3, tal4, tas4, tln4, tal5, tas5, tln5, tal6, tas6, tln6, tal7, tas7, tln7, tal8, tas8, tln8, tal9, tas9, tln9, bk22_0, bk22_14, bk22_15, bk22_30, bk22_31, bk22_53, bk22_54, bk22_70, bk22_71, bk22_111, bk22_112, am_B22_0, am_B22_14, am_B22_15, am_B22_30, am_B22_31, am_B22_53, am_B22_54, am_B22_70, am_B22_71, am_B22_111, am_B22_112, a0, f1, f2, f3, f4, f5, eP_eq, hA, Nat.add_one_sub_one, Nat.sub_zero, e10, ho1, ho0, nM_lt, Nat.not_lt_zero, Nat.zero_add, eq_self, f6, hF, hL0, hL1, h0]
          exact (wish_tail (T 1 i) o true false b1).mpr ⟨rfl, rfl⟩
  · skip
    by_cases h0 : o = 0
    · subst h0
      have h0 : (0 : Nat) = 0 := rfl
      by_cases hL : T 4 i = 8
      · rw [hL, eP_8] at f4
        have f5 := hfB hA
        have g : flN T i p = false := by unfold flN; rw [hL]; simp
        rw [g, decide_eq_false hA]
        simp (config := { maxSteps := 1000000 }) (disch := first | exact am_nl_i | exact am_nl_r | exact am_nl_n | exact am_l0 | exact am_l1 | exact am_l2 | exact am_l3 | assumption | omega) only [wp_ldc, wp_sipush, wp_ldc_w, wp_lconst, wp_iadd, wp_isub, wp_imul, wp_iand, wp_ior, wp_ixor, wp_ishl, wp_ishr, wp_iushr, wp_idiv, wp_irem, wp_ineg, wp_i2b, wp_i2s, wp_i2c, wp_i2l, wp_ladd, wp_lmul, wp_lcmp, wp_dup_i, wp_dup_r, wp_dup2, wp_pop, wp_getfield, wp_putfield, wp_getstatic, wp_iaload, wp_baload, wp_aaload, wp_iastore, wp_arraylength, wp_goto, wp_fall, wp_ieq, wp_ine, wp_ilt, wp_ige, wp_igt, wp_ile, wp_ceq, wp_cne, wp_clt, wp_cge, wp_cgt, wp_cle, wp_sw, wp_ret0, wp_ret1z, wp_ret1o, wp_ret1, wp_ret2, wp_ret3, wp_ret4, wp_ret5, wp_return, wp_min, wp_max, wp_abs, am_ex, gset_eq, gset_ne, upd_eq, upd_ne, gset_gset, am_ci_1, am_ci_6, am_toList_some, am_toList_none, true_implies, false_implies, and_self, and_true, true_and, not_true_eq_false, not_false_eq_true, imp_self, implies_true, Classical.not_not, if_true, if_false, false_and, and_false, or_false, false_or, true_or, or_true, Nat.reduceAdd, Nat.reduceMul, Nat.reduceSub, Nat.reduceLT, Nat.reduceLeDiff, Nat.reduceEqDiff, Nat.reduceBneDiff, Nat.add_zero, Nat.zero_add, reduceCtorEq, wil0, wal0, wis0, wic0, wil1, wal1, wis1, wic1, wil2, wll2, wal2, wis2, was2, wls2, wic2, wil3, wis3, wic3, wic3m, wic3s, wil4, wis4, wic4, wil5, wis5, wic5, wic5m, wil6, wll6, wal6, wis6, was6, wls6, wic6, wil7, wal7, wis7, was7, wic7, wil8, wis8, wic8, wil9, wis9, wic9, wil10, wis10, wic10, am_nI_inj, am_nI_lt, am_nI_le, nI_add, pk_mul, am_nI_sub, am_add_m1, am_gfs, am_pfs, am_alds, am_asts, am_lens, tgf0, tgf1, tgf2, tgf3, tgf4, tgf5, tgf6, tgf7, tgf8, tgf9, tgf10, tgf11, tgf12, tpf7, tpf8, tpf9, tal0, tas0, tln0, tal1, tas1, tln1, tal2, tas2, tln2, tal3, tas3, tln3, tal4, tas4, tln4, tal5, tas5, tln5, tal6, tas6, tln6, tal7, tas7, tln7, tal8, tas8, tln8, tal9, tas9, tln9, bk22_0, bk22_14, bk22_15, bk22_30, bk22_31, bk22_53, bk22_54, bk22_70, bk22_71, bk22_111, bk22_112, am_B22_0, am_B22_14, am_B22_15, am_B22_30, am_B22_31, am_B22_53, am_B22_54, am_B22_70, am_B22_71, am_B22_111, am_B22_112, a0, f1, f2, f3, f4, f5, eP_eq, hA, Nat.add_one_sub_one, Nat.sub_zero, e10, ho1, ho0, nM_lt, Nat.not_lt_zero, Nat.zero_add, eq_self, h0]
        exact (wish_tail (T 1 i) 0 false false b1).mpr ⟨rfl, rfl⟩
      · rw [eP_lt hL] at f4
        have hLn : T 4 i < n := by omega
        have f6 := a5 (T 4 i) hLn
        have hb2 := (v3 (T 4 i) hLn).2.1
        have hL0 : (T 4 i < 0) = False := eq_false (by omega)
        have hL1 : (n ≤ T 4 i) = False := eq_false (by omega)
        by_cases hF : T 2 (T 4 i) = p
        · skip
          have f5 := hfB hA
          have g : flN T i p = true := by unfold flN; simp only [hF, and_true, decide_eq_true_eq]; omega
          rw [g, decide_eq_false hA]
          simp (config := { maxSteps := 1000000 }) (disch := first | exact am_nl_i | exact am_nl_r | exact am_nl_n | exact am_l0 | exact am_l1 | exact am_l2 | exact am_l3 | assumption | omega) only [wp_ldc, wp_sipush, wp_ldc_w, wp_lconst, wp_iadd, wp_isub, wp_imul, wp_iand, wp_ior, wp_ixor, wp_ishl, wp_ishr, wp_iushr, wp_idiv, wp_irem, wp_ineg, wp_i2b, wp_i2s, wp_i2c, wp_i2l, wp_ladd, wp_lmul, wp_lcmp, wp_dup_i, wp_dup_r, wp_dup2, wp_pop, wp_getfield, wp_putfield, wp_getstatic, wp_iaload, wp_baload, wp_aaload, wp_iastore, wp_arraylength, wp_goto, wp_fall, wp_ieq, wp_ine, wp_ilt, wp_ige, wp_igt, wp_ile, wp_ceq, wp_cne, wp_clt, wp_cge, wp_cgt, wp_cle, wp_sw, wp_ret0, wp_ret1z, wp_ret1o, wp_ret1, wp_ret2, wp_ret3, wp_ret4, wp_ret5, wp_return, wp_min, wp_max, wp_abs, am_ex, gset_eq, gset_ne, upd_eq, upd_ne, gset_gset, am_ci_1, am_ci_6, am_toList_some, am_toList_none, true_implies, false_implies, and_self, and_true, true_and, not_true_eq_false, not_false_eq_true, imp_self, implies_true, Classical.not_not, if_true, if_false, false_and, and_false, or_false, false_or, true_or, or_true, Nat.reduceAdd, Nat.reduceMul, Nat.reduceSub, Nat.reduceLT, Nat.reduceLeDiff, Nat.reduceEqDiff, Nat.reduceBneDiff, Nat.add_zero, Nat.zero_add, reduceCtorEq, wil0, wal0, wis0, wic0, wil1, wal1, wis1, wic1, wil2, wll2, wal2, wis2, was2, wls2, wic2, wil3, wis3, wic3, wic3m, wic3s, wil4, wis4, wic4, wil5, wis5, wic5, wic5m, wil6, wll6, wal6, wis6, was6, wls6, wic6, wil7, wal7, wis7, was7, wic7, wil8, wis8, wic8, wil9, wis9, wic9, wil10, wis10, wic10, am_nI_inj, am_nI_lt, am_nI_le, nI_add, pk_mul, am_nI_sub, am_add_m1, am_gfs, am_pfs, am_alds, am_asts, am_lens, tgf0, tgf1, tgf2, tgf3, tgf4, tgf5, tgf6, tgf7, tgf8, tgf9, tgf10, tgf11, tgf12, tpf7, tpf8, tpf9, tal0, tas0, tln0, tal1, tas1, tln1, tal2, tas2, tln2, tal3, tas3, tln3, tal4, tas4, tln4, tal5, tas5, tln5, tal6, tas6, tln6, tal7, tas7, tln7, tal8, tas8, tln8, tal9, tas9, tln9, bk22_0, bk22_14, bk22_15, bk22_30, bk22_31, bk22_53, bk22_54, bk22_70, bk22_71, bk22_111, bk22_112, am_B22_0, am_B22_14, am_B22_15, am_B22_30, am_B22_31, am_B22_53, am_B22_54, am_B22_70, am_B22_71, am_B22_111, am_B22_112, a0, f1, f2, f3, f4, f5, eP_eq, hA, Nat.add_one_sub_one, Nat.sub_zero, e10, ho1, ho0, nM_lt, Nat.not_lt_zero, Nat.zero_add, eq_self, f6, hF, hL0, hL1, h0]
          exact (wish_tail (T 1 i) 0 false true b1).mpr ⟨rfl, rfl⟩
        · skip
          have f5 := hfB hA
          have g : flN T i p = false := by unfold flN; simp [hF]
          rw [g, decide_eq_false hA]
          simp (config := { maxSteps := 1000000 }) (disch := first | exact am_nl_i | exact am_nl_r | exact am_nl_n | exact am_l0 | exact am_l1 | exact am_l2 | exact am_l3 | assumption | omega) only [wp_ldc, wp_sipush, wp_ldc_w, wp_lconst, wp_iadd, wp_isub, wp_imul, wp_iand, wp_ior, wp_ixor, wp_ishl, wp_ishr, wp_iushr, wp_idiv, wp_irem, wp_ineg, wp_i2b, wp_i2s, wp_i2c, wp_i2l, wp_ladd, wp_lmul, wp_lcmp, wp_dup_i, wp_dup_r, wp_dup2, wp_pop, wp_getfield, wp_putfield, wp_getstatic, wp_iaload, wp_baload, wp_aaload, wp_iastore, wp_arraylength, wp_goto, wp_fall, wp_ieq, wp_ine, wp_ilt, wp_ige, wp_igt, wp_ile, wp_ceq, wp_cne, wp_clt, wp_cge, wp_cgt, wp_cle, wp_sw, wp_ret0, wp_ret1z, wp_ret1o, wp_ret1, wp_ret2, wp_ret3, wp_ret4, wp_ret5, wp_return, wp_min, wp_max, wp_abs, am_ex, gset_eq, gset_ne, upd_eq, upd_ne, gset_gset, am_ci_1, am_ci_6, am_toList_some, am_toList_none, true_implies, false_implies, and_self, and_true, true_and, not_true_eq_false, not_false_eq_true, imp_self, implies_true, Classical.not_not, if_true, if_false, false_and, and_false, or_false, false_or, true_or, or_true, Nat.reduceAdd, Nat.reduceMul, Nat.reduceSub, Nat.reduceLT, Nat.reduceLeDiff, Nat.reduceEqDiff, Nat.reduceBneDiff, Nat.add_zero, Nat.zero_add, reduceCtorEq, wil0, wal0, wis0, wic0, wil1, wal1, wis1, wic1, wil2, wll2, wal2, wis2, was2, wls2, wic2, wil3, wis3, wic3, wic3m, wic3s, wil4, wis4, wic4, wil5, wis5, wic5, wic5m, wil6, wll6, wal6, wis6, was6, wls6, wic6, wil7, wal7, wis7, was7, wic7, wil8, wis8, wic8, wil9, wis9, wic9, wil10, wis10, wic10, am_nI_inj, am_nI_lt, am_nI_le, nI_add, pk_mul, am_nI_sub, am_add_m1, am_gfs, am_pfs, am_alds, am_asts, am_lens, tgf0, tgf1, tgf2, tgf3, tgf4, tgf5, tgf6, tgf7, tgf8, tgf9, tgf10, tgf11, tgf12, tpf7, tpf8, tpf9, tal0, tas0, tln0, tal1, tas1, tln1, tal2, tas2, tln2, tal3, tas3, tln3, tal4, tas4, tln4, tal5, tas5, tln5, tal6, tas6, tln6, tal7, tas7, tln7, tal8, tas8, tln8, tal9, tas9, tln9, bk22_0, bk22_14, bk22_15, bk22_30, bk22_31, bk22_53, bk22_54, bk22_70, bk22_71, bk22_111, bk22_112, am_B22_0, am_B22_14, am_B22_15, am_B22_30, am_B22_31, am_B22_53, am_B22_54, am_B22_70, am_B22_71, am_B22_111, am_B22_112, a0, f1, f2, f3, f4, f5, eP_eq, hA, Nat.add_one_sub_one, Nat.sub_zero, e10, ho1, ho0, nM_lt, Nat.not_lt_zero, Nat.zero_add, eq_self, f6, hF, hL0, hL1, h0]
          exact (wish_tail (T 1 i) 0 false false b1).mpr ⟨rfl, rfl⟩
    · skip
      by_cases hL : T 4 i = 8
      · rw [hL, eP_8] at f4
        have f5 := hfB hA
        have g : flN T i p = false := by unfold flN; rw [hL]; simp
        rw [g, decide_eq_false hA]
        simp (config := { maxSteps := 1000000 }) (disch := first | exact am_nl_i | exact am_nl_r | exact am_nl_n | exact am_l0 | exact am_l1 | exact am_l2 | exact am_l3 | assumption | omega) only [wp_ldc, wp_sipush, wp_ldc_w, wp_lconst, wp_iadd, wp_isub, wp_imul, wp_iand, wp_ior, wp_ixor, wp_ishl, wp_ishr, wp_iushr, wp_idiv, wp_irem, wp_ineg, wp_i2b, wp_i2s, wp_i2c, wp_i2l, wp_ladd, wp_lmul, wp_lcmp, wp_dup_i, wp_dup_r, wp_dup2, wp_pop, wp_getfield, wp_putfield, wp_getstatic, wp_iaload, wp_baload, wp_aaload, wp_iastore, wp_arraylength, wp_goto, wp_fall, wp_ieq, wp_ine, wp_ilt, wp_ige, wp_igt, wp_ile, wp_ceq, wp_cne, wp_clt, wp_cge, wp_cgt, wp_cle, wp_sw, wp_ret0, wp_ret1z, wp_ret1o, wp_ret1, wp_ret2, wp_ret3, wp_ret4, wp_ret5, wp_return, wp_min, wp_max, wp_abs, am_ex, gset_eq, gset_ne, upd_eq, upd_ne, gset_gset, am_ci_1, am_ci_6, am_toList_some, am_toList_none, true_implies, false_implies, and_self, and_true, true_and, not_true_eq_false, not_false_eq_true, imp_self, implies_true, Classical.not_not, if_true, if_false, false_and, and_false, or_false, false_or, true_or, or_true, Nat.reduceAdd, Nat.reduceMul, Nat.reduceSub, Nat.reduceLT, Nat.reduceLeDiff, Nat.reduceEqDiff, Nat.reduceBneDiff, Nat.add_zero, Nat.zero_add, reduceCtorEq, wil0, wal0, wis0, wic0, wil1, wal1, wis1, wic1, wil2, wll2, wal2, wis2, was2, wls2, wic2, wil3, wis3, wic3, wic3m, wic3s, wil4, wis4, wic4, wil5, wis5, wic5, wic5m, wil6, wll6, wal6, wis6, was6, wls6, wic6, wil7, wal7, wis7, was7, wic7, wil8, wis8, wic8, wil9, wis9, wic9, wil10, wis10, wic10, am_nI_inj, am_nI_lt, am_nI_le, nI_add, pk_mul, am_nI_sub, am_add_m1, am_gfs, am_pfs, am_alds, am_asts, am_lens, tgf0, tgf1, tgf2, tgf3, tgf4, tgf5, tgf6, tgf7, tgf8, tgf9, tgf10, tgf11, tgf12, tpf7, tpf8, tpf9, tal0, tas0, tln0, tal1, tas1, tln1, tal2, tas2, tln2, tal3, tas3, tln3, tal4, tas4, tln4, tal5, tas5, tln5, tal6, tas6, tln6, tal7, tas7, tln7, tal8, tas8, tln8, tal9, tas9, tln9, bk22_0, bk22_14, bk22_15, bk22_30, bk22_31, bk22_53, bk22_54, bk22_70, bk22_71, bk22_111, bk22_112, am_B22_0, am_B22_14, am_B22_15, am_B22_30, am_B22_31, am_B22_53, am_B22_54, am_B22_70, am_B22_71, am_B22_111, am_B22_112, a0, f1, f2, f3, f4, f5, eP_eq, hA, Nat.add_one_sub_one, Nat.sub_zero, e10, ho1, ho0, nM_lt, Nat.not_lt_zero, Nat.zero_add, eq_self, h0]
        exact (wish_tail (T 1 i) o false false b1).mpr ⟨rfl, rfl⟩
      · rw [eP_lt hL] at f4
        have hLn : T 4 i < n := by omega
        have f6 := a5 (T 4 i) hLn
        have hb2 := (v3 (T 4 i) hLn).2.1
        have hL0 : (T 4 i < 0) = False := eq_false (by omega)
        have hL1 : (n ≤ T 4 i) = False := eq_false (by omega)
        by_cases hF : T 2 (T 4 i) = p
        · skip
          have f5 := hfB hA
          have g : flN T i p = true := by unfold flN; simp only [hF, and_true, decide_eq_true_eq]; omega
          rw [g, decide_eq_false hA]
          simp (config := { maxSteps := 1000000 }) (disch := first | exact am_nl_i | exact am_nl_r | exact am_nl_n | exact am_l0 | exact am_l1 | exact am_l2 | exact am_l3 | assumption | omega) only [wp_ldc, wp_sipush, wp_ldc_w, wp_lconst, wp_iadd, wp_isub, wp_imul, wp_iand, wp_ior, wp_ixor, wp_ishl, wp_ishr, wp_iushr, wp_idiv, wp_irem, wp_ineg, wp_i2b, wp_i2s, wp_i2c, wp_i2l, wp_ladd, wp_lmul, wp_lcmp, wp_dup_i, wp_dup_r, wp_dup2, wp_pop, wp_getfield, wp_putfield, wp_getstatic, wp_iaload, wp_baload, wp_aaload, wp_iastore, wp_arraylength, wp_goto, wp_fall, wp_ieq, wp_ine, wp_ilt, wp_ige, wp_igt, wp_ile, wp_ceq, wp_cne, wp_clt, wp_cge, wp_cgt, wp_cle, wp_sw, wp_ret0, wp_ret1z, wp_ret1o, wp_ret1, wp_ret2, wp_ret3, wp_ret4, wp_ret5, wp_return, wp_min, wp_max, wp_abs, am_ex, gset_eq, gset_ne, upd_eq, upd_ne, gset_gset, am_ci_1, am_ci_6, am_toList_some, am_toList_none, true_implies, false_implies, and_self, and_true, true_and, not_true_eq_false, not_false_eq_true, imp_self, implies_true, Classical.not_not, if_true, if_false, false_and, and_false, or_false, false_or, true_or, or_true, Nat.reduceAdd, Nat.reduceMul, Nat.reduceSub, Nat.reduceLT, Nat.reduceLeDiff, Nat.reduceEqDiff, Nat.reduceBneDiff, Nat.add_zero, Nat.zero_add, reduceCtorEq, wil0, wal0, wis0, wic0, wil1, wal1, wis1, wic1, wil2, wll2, wal2, wis2, was2, wls2, wic2, wil3, wis3, wic3, wic3m, wic3s, wil4, wis4, wic4, wil5, wis5, wic5, wic5m, wil6, wll6, wal6, wis6, was6, wls6, wic6, wil7, wal7, wis7, was7, wic7, wil8, wis8, wic8, wil9, wis9, wic9, wil10, wis10, wic10, am_nI_inj, am_nI_lt, am_nI_le, nI_add, pk_mul, am_nI_sub, am_add_m1, am_gfs, am_pfs, am_alds, am_asts, am_lens, tgf0, tgf1, tgf2, tgf3, tgf4, tgf5, tgf6, tgf7, tgf8, tgf9, tgf10, tgf11, tgf12, tpf7, tpf8, tpf9, tal0, tas0, tln0, tal1, tas1, tln1, tal2, tas2, tln2, tal3, tas3, tln3, tal4, tas4, tln4, tal5, tas5, tln5, tal6, tas6, tln6, tal7, tas7, tln7, tal8, tas8, tln8, tal9, tas9, tln9, bk22_0, bk22_14, bk22_15, bk22_30, bk22_31, bk22_53, bk22_54, bk22_70, bk22_71, bk22_111, bk22_112, am_B22_0, am_B22_14, am_B22_15, am_B22_30, am_B22_31, am_B22_53, am_B22_54, am_B22_70, am_B22_71, am_B22_111, am_B22_112, a0, f1, f2, f3, f4, f5, eP_eq, hA, Nat.add_one_sub_one, Nat.sub_zero, e10, ho1, ho0, nM_lt, Nat.not_lt_zero, Nat.zero_add, eq_self, f6, hF, hL0, hL1, h0]
          exact (wish_tail (T 1 i) o false true b1).mpr ⟨rfl, rfl⟩
        · skip
          have f5 := hfB hA
          have g : flN T i p = false := by unfold flN; simp [hF]
          rw [g, decide_eq_false hA]
          simp (config := { maxSteps := 1000000 }) (disch := first | exact am_nl_i | exact am_nl_r | exact am_nl_n | exact am_l0 | exact am_l1 | exact am_l2 | exact am_l3 | assumption | omega) only [wp_ldc, wp_sipush, wp_ldc_w, wp_lconst, wp_iadd, wp_isub, wp_imul, wp_iand, wp_ior, wp_ixor, wp_ishl, wp_ishr, wp_iushr, wp_idiv, wp_irem, wp_ineg, wp_i2b, wp_i2s, wp_i2c, wp_i2l, wp_ladd, wp_lmul, wp_lcmp, wp_dup_i, wp_dup_r, wp_dup2, wp_pop, wp_getfield, wp_putfield, wp_getstatic, wp_iaload, wp_baload, wp_aaload, wp_iastore, wp_arraylength, wp_goto, wp_fall, wp_ieq, wp_ine, wp_ilt, wp_ige, wp_igt, wp_ile, wp_ceq, wp_cne, wp_clt, wp_cge, wp_cgt, wp_cle, wp_sw, wp_ret0, wp_ret1z, wp_ret1o, wp_ret1, wp_ret2, wp_ret3, wp_ret4, wp_ret5, wp_return, wp_min, wp_max, wp_abs, am_ex, gset_eq, gset_ne, upd_eq, upd_ne, gset_gset, am_ci_1, am_ci_6, am_toList_some, am_toList_none, true_implies, false_implies, and_self, and_true, true_and, not_true_eq_false, not_false_eq_true, imp_self, implies_true, Classical.not_not, if_true, if_false, false_and, and_false, or_false, false_or, true_or, or_true, Nat.reduceAdd, Nat.reduceMul, Nat.reduceSub, Nat.reduceLT, Nat.reduceLeDiff, Nat.reduceEqDiff, Nat.reduceBneDiff, Nat.add_zero, Nat.zero_add, reduceCtorEq, wil0, wal0, wis0, wic0, wil1, wal1, wis1, wic1, wil2, wll2, wal2, wis2, was2, wls2, wic2, wil3, wis3, wic3, wic3m, wic3s, wil4, wis4, wic4, wil5, wis5, wic5, wic5m, wil6, wll6, wal6, wis6, was6, wls6, wic6, wil7, wal7, wis7, was7, wic7, wil8, wis8, wic8, wil9, wis9, wic9, wil10, wis10, wic10, am_nI_inj, am_nI_lt, am_nI_le, nI_add, pk_mul, am_nI_sub, am_add_m1, am_gfs, am_pfs, am_alds, am_asts, am_lens, tgf0, tgf1, tgf2, tgf3, tgf4, tgf5, tgf6, tgf7, tgf8, tgf9, tgf10, tgf11, tgf12, tpf7, tpf8, tpf9, tal0, tas0, tln0, tal1, tas1, tln1, tal2, tas2, tln2, tal3, tas3, tln3, tal4, tas4, tln4, tal5, tas5, tln5, tal6, tas6, tln6, tal7, tas7, tln7, tal8, tas8, tln8, tal9, tas9, tln9, bk22_0, bk22_14, bk22_15, bk22_30, bk22_31, bk22_53, bk22_54, bk22_70, bk22_71, bk22_111, bk22_112, am_B22_0, am_B22_14, am_B22_15, am_B22_30, am_B22_31, am_B22_53, am_B22_54, am_B22_70, am_B22_71, am_B22_111, am_B22_112, a0, f1, f2, f3, f4, f5, eP_eq, hA, Nat.add_one_sub_one, Nat.sub_zero, e10, ho1, ho0, nM_lt, Nat.not_lt_zero, Nat.zero_add, eq_self, f6, hF, hL0, hL1, h0]
          exact (wish_tail (T 1 i) o false false b1).mpr ⟨rfl, rfl⟩
theorem C_X3_wishAt {X : AmX} {G : GG} {k : Nat} {r : List Instr} {lv : LV} {st : List Value} {Q : Option Value → GG → Prop} {b n i p : Nat} {T : TT} {t : Nat} {z : Int32} (hb : TB b) (hE : TE G b n T t z) (hV : TV n T) (hP : PL G b n T) (hi : i < n) (hp : p < 8) (hl : st.length ≤ 4) : WP X k (.invokeinterface 22 3 :: r) lv ((.int (nI p)) :: (.int (nI i)) :: (.ref b) :: st) G Q ↔ WP X k r lv ((.int (wishN T n i p)) :: st) (G) Q := WP_ev (E_X3_wishAt b n i p T t z hb hE hV hP hi hp) (by decide) rfl rfl hl (am_rcv_of rfl (tcls hb))
end
section
/-! ===== the class's town: choices, settling ===== -/
theorem E_X3_bestPlaceFor {X : AmX} {G : GG} (b n i : Nat) (T : TT) (t : Nat) (z : Int32) (hb : TB b) (hE : TE G b n T t z) (hV : TV n T) (hP : PL G b n T) (hi : i < n) : Ev X 21 [.ref b, .int (nI i)] G (some (.int (eP (chN T n i)))) (G) := by
  have hb5 : b < 500 := hb.lt
  refine Ev_of ?_
  show WP X 21 (am_blk 21 0) [some (.ref b), some (.int (nI i)), none, none, none, none, none, none] [] G _
  obtain ⟨v1, v2, v3, v4⟩ := id hV
  obtain ⟨a0, a1, a2, a3, a4, a5, a6, a7, a8, a9⟩ := id hE
  obtain ⟨b1, b2, b3, b4, b5⟩ := v3 i hi
  have hi8 : i < 8 := by omega
  have f3 := a5 i hi
  have f4 := a6 i hi
  by_cases h8 : T 2 i = 8
  · have e : chN T n i = 8 := by unfold chN; rw [if_pos h8]
    rw [e, eP_8]
    rw [h8, eP_8] at f3
    have e1 : inR nM (nI 0) (nI 7) = false := by decide
    simp (config := { maxSteps := 1000000 }) (disch := first | exact am_nl_i | exact am_nl_r | exact am_nl_n | exact am_l0 | exact am_l1 | exact am_l2 | exact am_l3 | assumption | omega) only [wp_ldc, wp_sipush, wp_ldc_w, wp_lconst, wp_iadd, wp_isub, wp_imul, wp_iand, wp_ior, wp_ixor, wp_ishl, wp_ishr, wp_iushr, wp_idiv, wp_irem, wp_ineg, wp_i2b, wp_i2s, wp_i2c, wp_i2l, wp_ladd, wp_lmul, wp_lcmp, wp_dup_i, wp_dup_r, wp_dup2, wp_pop, wp_getfield, wp_putfield, wp_getstatic, wp_iaload, wp_baload, wp_aaload, wp_iastore, wp_arraylength, wp_goto, wp_fall, wp_ieq, wp_ine, wp_ilt, wp_ige, wp_igt, wp_ile, wp_ceq, wp_cne, wp_clt, wp_cge, wp_cgt, wp_cle, wp_sw, wp_ret0, wp_ret1z, wp_ret1o, wp_ret1, wp_ret2, wp_ret3, wp_ret4, wp_ret5, wp_return, wp_min, wp_max, wp_abs, am_ex, gset_eq, gset_ne, upd_eq, upd_ne, gset_gset, am_ci_1, am_ci_6, am_toList_some, am_toList_none, true_implies, false_implies, and_self, and_true, true_and, not_true_eq_false, not_false_eq_true, imp_self, implies_true, Classical.not_not, if_true, if_false, false_and, and_false, or_false, false_or, true_or, or_true, Nat.reduceAdd, Nat.reduceMul, Nat.reduceSub, Nat.reduceLT, Nat.reduceLeDiff, Nat.reduceEqDiff, Nat.reduceBneDiff, Nat.add_zero, Nat.zero_add, reduceCtorEq, wil0, wal0, wis0, wic0, wil1, wal1, wis1, wic1, wil2, wll2, wal2, wis2, was2, wls2, wic2, wil3, wis3, wic3, wic3m, wic3s, wil4, wis4, wic4, wil5, wis5, wic5, wic5m, wil6, wll6, wal6, wis6, was6, wls6, wic6, wil7, wal7, wis7, was7, wic7, wil8, wis8, wic8, wil9, wis9, wic9, wil10, wis10, wic10, am_nI_inj, am_nI_lt, am_nI_le, nI_add, pk_mul, am_nI_sub, am_add_m1, am_gfs, am_pfs, am_alds, am_asts, am_lens, tgf0, tgf1, tgf2, tgf3, tgf4, tgf5, tgf6, tgf7, tgf8, tgf9, tgf10, tgf11, tgf12, tpf7, tpf8, tpf9, tal0, tas0, tln0, tal1, tas1, tln1, tal2, tas2, tln2, tal3, tas3, tln3, tal4, tas4, tln4, tal5, tas5, tln5, tal6, tas6, tln6, tal7, tas7, tln7, tal8, tas8, tln8, tal9, tas9, tln9, bk21_0, am_B21_0, f3, C_X4_isPlace, e1, bI_f, fcs]
  · rw [eP_lt h8] at f3
    have hq : T 2 i < 8 := by omega
    have e : chN T n i = chF (wishN T n i) (seesN T i) (T 2 i) 8 := by unfold chN; rw [if_neg h8]
    have hse : ∀ k, seesN T i k = true ↔ T 2 i - T 3 i ≤ k ∧ k ≤ T 2 i + T 3 i := by
      intro k; unfold seesN; simp only [decide_eq_true_eq]; omega
    rw [e]
    generalize hw : wishN T n i = w
    generalize hs : seesN T i = s at hse
    generalize hqq : T 2 i = q at hq f3 hse
    generalize hll : T 3 i = l at b3 f4 hse
    have hmo : ∀ k, s k = false ↔ ¬ (q - l ≤ k ∧ k ≤ q + l) := fun k => by rw [← hse k]; simp
    have elo : chF w s q (q - l) = q := by
      have := chF_skip (w := w) (s := s) (q := q) (a := 0) (q - l) (fun k h1 h2 => (hmo k).mpr (by omega))
      rw [Nat.zero_add] at this
      rw [this]; rfl
    have ehi : chF w s q 8 = chF w s q (min (q + l) 7 + 1) := by
      have := chF_skip (w := w) (s := s) (q := q) (a := min (q + l) 7 + 1) (8 - (min (q + l) 7 + 1)) (fun k h1 h2 => (hmo k).mpr (by omega))
      rw [show min (q + l) 7 + 1 + (8 - (min (q + l) 7 + 1)) = 8 by omega] at this
      exact this
    have key : ∀ d k : Nat, k + d = min (q + l) 7 + 1 → q - l ≤ k → ∀ x : Option Value, WP X 21 (am_blk 21 55) [some (.ref b), some (.int (nI i)), some (.int (nI q)), some (.int (nI (chF w s q k))), some (.int (w (chF w s q k))), some (.int (nI (min (q + l) 7))), some (.int (nI k)), x] [] G (fun v H => v = some (.int (eP (chF w s q 8))) ∧ H = G) := by
      intro d
      induction d with
      | zero =>
        intro k hk hlo x
        obtain rfl : k = min (q + l) 7 + 1 := by omega
        have hc : (min (q + l) 7 < min (q + l) 7 + 1) = True := eq_true (by omega)
        have hl8 := chF_lt (w := w) (s := s) hq 8 (by omega)
        have hee : eP (chF w s q 8) = nI (chF w s q (min (q + l) 7 + 1)) := by rw [eP_lt (by omega), ehi]
        rw [bh21_55, hee]
        simp (config := { maxSteps := 1000000 }) (disch := first | exact am_nl_i | exact am_nl_r | exact am_nl_n | exact am_l0 | exact am_l1 | exact am_l2 | exact am_l3 | assumption | omega) only [wp_ldc, wp_sipush, wp_ldc_w, wp_lconst, wp_iadd, wp_isub, wp_imul, wp_iand, wp_ior, wp_ixor, wp_ishl, wp_ishr, wp_iushr, wp_idiv, wp_irem, wp_ineg, wp_i2b, wp_i2s, wp_i2c, wp_i2l, wp_ladd, wp_lmul, wp_lcmp, wp_dup_i, wp_dup_r, wp_dup2, wp_pop, wp_getfield, wp_putfield, wp_getstatic, wp_iaload, wp_baload, wp_aaload, wp_iastore, wp_arraylength, wp_goto, wp_fall, wp_ieq, wp_ine, wp_ilt, wp_ige, wp_igt, wp_ile, wp_ceq, wp_cne, wp_clt, wp_cge, wp_cgt, wp_cle, wp_sw, wp_ret0, wp_ret1z, wp_ret1o, wp_ret1, wp_ret2, wp_ret3, wp_ret4, wp_ret5, wp_return, wp_min, wp_max, wp_abs, am_ex, gset_eq, gset_ne, upd_eq, upd_ne, gset_gset, am_ci_1, am_ci_6, am_toList_some, am_toList_none, true_implies, false_implies, and_self, and_true, true_and, not_true_eq_false, not_false_eq_true, imp_self, implies_true, Classical.not_not, if_true, if_false, false_and, and_false, or_false, false_or, true_or, or_true, Nat.reduceAdd, Nat.reduceMul, Nat.reduceSub, Nat.reduceLT, Nat.reduceLeDiff, Nat.reduceEqDiff, Nat.reduceBneDiff, Nat.add_zero, Nat.zero_add, reduceCtorEq, wil0, wal0, wis0, wic0, wil1, wal1, wis1, wic1, wil2, wll2, wal2, wis2, was2, wls2, wic2, wil3, wis3, wic3, wic3m, wic3s, wil4, wis4, wic4, wil5, wis5, wic5, wic5m, wil6, wll6, wal6, wis6, was6, wls6, wic6, wil7, wal7, wis7, was7, wic7, wil8, wis8, wic8, wil9, wis9, wic9, wil10, wis10, wic10, am_nI_inj, am_nI_lt, am_nI_le, nI_add, pk_mul, am_nI_sub, am_add_m1, am_gfs, am_pfs, am_alds, am_asts, am_lens, tgf0, tgf1, tgf2, tgf3, tgf4, tgf5, tgf6, tgf7, tgf8, tgf9, tgf10, tgf11, tgf12, tpf7, tpf8, tpf9, tal0, tas0, tln0, tal1, tas1, tln1, tal2, tas2, tln2, tal3, tas3, tln3, tal4, tas4, tln4, tal5, tas5, tln5, tal6, tas6, tln6, tal7, tas7, tln7, tal8, tas8, tln8, tal9, tas9, tln9, bk21_91, am_B21_55, am_B21_91, hc]
      | succ d ih =>
        intro k hk hlo x
        have hc : (min (q + l) 7 < k) = False := eq_false (by omega)
        have hk8 : k < 8 := by omega
        have hsk : s k = true := (hse k).mpr (by omega)
        have hW := fun (st : List Value) (r : List Instr) (lv : LV) (Q : Option Value → GG → Prop) (hl : st.length ≤ 4) => C_X3_wishAt (X := X) (k := 21) (st := st) (r := r) (lv := lv) (Q := Q) (b := b) (n := n) (i := i) (p := k) (T := T) hb hE hV hP hi hk8 hl
        rw [hw] at hW
        have hnext : chF w s q (k + 1) = if w (chF w s q k) < w k then k else chF w s q k := by
          show (if s k = true ∧ w (chF w s q k) < w k then k else chF w s q k) = _
          simp [hsk]
        rw [bh21_55]
        have ih := ih (k + 1) (by omega) (by omega)
        by_cases hlt : w (chF w s q k) < w k
        · have hnle : (w k ≤ w (chF w s q k)) = False := eq_false (Int32.not_le.mpr hlt)
          rw [hnext, if_pos hlt] at ih
          simp (config := { maxSteps := 1000000 }) (disch := first | exact am_nl_i | exact am_nl_r | exact am_nl_n | exact am_l0 | exact am_l1 | exact am_l2 | exact am_l3 | assumption | omega) only [wp_ldc, wp_sipush, wp_ldc_w, wp_lconst, wp_iadd, wp_isub, wp_imul, wp_iand, wp_ior, wp_ixor, wp_ishl, wp_ishr, wp_iushr, wp_idiv, wp_irem, wp_ineg, wp_i2b, wp_i2s, wp_i2c, wp_i2l, wp_ladd, wp_lmul, wp_lcmp, wp_dup_i, wp_dup_r, wp_dup2, wp_pop, wp_getfield, wp_putfield, wp_getstatic, wp_iaload, wp_baload, wp_aaload, wp_iastore, wp_arraylength, wp_goto, wp_fall, wp_ieq, wp_ine, wp_ilt, wp_ige, wp_igt, wp_ile, wp_ceq, wp_cne, wp_clt, wp_cge, wp_cgt, wp_cle, wp_sw, wp_ret0, wp_ret1z, wp_ret1o, wp_ret1, wp_ret2, wp_ret3, wp_ret4, wp_ret5, wp_return, wp_min, wp_max, wp_abs, am_ex, gset_eq, gset_ne, upd_eq, upd_ne, gset_gset, am_ci_1, am_ci_6, am_toList_some, am_toList_none, true_implies, false_implies, and_self, and_true, true_and, not_true_eq_false, not_false_eq_true, imp_self, implies_true, Classical.not_not, if_true, if_false, false_and, and_false, or_false, false_or, true_or, or_true, Nat.reduceAdd, Nat.reduceMul, Nat.reduceSub, Nat.reduceLT, Nat.reduceLeDiff, Nat.reduceEqDiff, Nat.reduceBneDiff, Nat.add_zero, Nat.zero_add, reduceCtorEq, wil0, wal0, wis0, wic0, wil1, wal1, wis1, wic1, wil2, wll2, wal2, wis2, was2, wls2, wic2, wil3, wis3, wic3, wic3m, wic3s, wil4, wis4, wic4, wil5, wis5, wic5, wic5m, wil6, wll6, wal6, wis6, was6, wls6, wic6, wil7, wal7, wis7, was7, wic7, wil8, wis8, wic8, wil9, wis9, wic9, wil10, wis10, wic10, am_nI_inj, am_nI_lt, am_nI_le, nI_add, pk_mul, am_nI_sub, am_add_m1, am_gfs, am_pfs, am_alds, am_asts, am_lens, tgf0, tgf1, tgf2, tgf3, tgf4, tgf5, tgf6, tgf7, tgf8, tgf9, tgf10, tgf11, tgf12, tpf7, tpf8, tpf9, tal0, tas0, tln0, tal1, tas1, tln1, tal2, tas2, tln2, tal3, tas3, tln3, tal4, tas4, tln4, tal5, tas5, tln5, tal6, tas6, tln6, tal7, tas7, tln7, tal8, tas8, tln8, tal9, tas9, tln9, bk21_85, am_B21_55, am_B21_85, bn21_55, hc, hW, hnle]
          exact ih _
        · have hle : (w k ≤ w (chF w s q k)) = True := eq_true (Int32.not_lt.mp hlt)
          rw [hnext, if_neg hlt] at ih
          simp (config := { maxSteps := 1000000 }) (disch := first | exact am_nl_i | exact am_nl_r | exact am_nl_n | exact am_l0 | exact am_l1 | exact am_l2 | exact am_l3 | assumption | omega) only [wp_ldc, wp_sipush, wp_ldc_w, wp_lconst, wp_iadd, wp_isub, wp_imul, wp_iand, wp_ior, wp_ixor, wp_ishl, wp_ishr, wp_iushr, wp_idiv, wp_irem, wp_ineg, wp_i2b, wp_i2s, wp_i2c, wp_i2l, wp_ladd, wp_lmul, wp_lcmp, wp_dup_i, wp_dup_r, wp_dup2, wp_pop, wp_getfield, wp_putfield, wp_getstatic, wp_iaload, wp_baload, wp_aaload, wp_iastore, wp_arraylength, wp_goto, wp_fall, wp_ieq, wp_ine, wp_ilt, wp_ige, wp_igt, wp_ile, wp_ceq, wp_cne, wp_clt, wp_cge, wp_cgt, wp_cle, wp_sw, wp_ret0, wp_ret1z, wp_ret1o, wp_ret1, wp_ret2, wp_ret3, wp_ret4, wp_ret5, wp_return, wp_min, wp_max, wp_abs, am_ex, gset_eq, gset_ne, upd_eq, upd_ne, gset_gset, am_ci_1, am_ci_6, am_toList_some, am_toList_none, true_implies, false_implies, and_self, and_true, true_and, not_true_eq_false, not_false_eq_true, imp_self, implies_true, Classical.not_not, if_true, if_false, false_and, and_false, or_false, false_or, true_or, or_true, Nat.reduceAdd, Nat.reduceMul, Nat.reduceSub, Nat.reduceLT, Nat.reduceLeDiff, Nat.reduceEqDiff, Nat.reduceBneDiff, Nat.add_zero, Nat.zero_add, reduceCtorEq, wil0, wal0, wis0, wic0, wil1, wal1, wis1, wic1, wil2, wll2, wal2, wis2, was2, wls2, wic2, wil3, wis3, wic3, wic3m, wic3s, wil4, wis4, wic4, wil5, wis5, wic5, wic5m, wil6, wll6, wal6, wis6, was6, wls6, wic6, wil7, wal7, wis7, was7, wic7, wil8, wis8, wic8, wil9, wis9, wic9, wil10, wis10, wic10, am_nI_inj, am_nI_lt, am_nI_le, nI_add, pk_mul, am_nI_sub, am_add_m1, am_gfs, am_pfs, am_alds, am_asts, am_lens, tgf0, tgf1, tgf2, tgf3, tgf4, tgf5, tgf6, tgf7, tgf8, tgf9, tgf10, tgf11, tgf12, tpf7, tpf8, tpf9, tal0, tas0, tln0, tal1, tas1, tln1, tal2, tas2, tln2, tal3, tas3, tln3, tal4, tas4, tln4, tal5, tas5, tln5, tal6, tas6, tln6, tal7, tas7, tln7, tal8, tas8, tln8, tal9, tas9, tln9, bk21_85, am_B21_55, am_B21_85, bn21_55, hc, hW, hle]
          exact ih _
    have e1 : inR (nI q) (nI 0) (nI 7) = true := by rw [inR_nI (by omega) (by omega) (by omega)]; simp; omega
    have e2 : (nI 1 = nI 0) = False := eq_false (by decide)
    have hW := fun (st : List Value) (r : List Instr) (lv : LV) (Q : Option Value → GG → Prop) (hl : st.length ≤ 4) => C_X3_wishAt (X := X) (k := 21) (st := st) (r := r) (lv := lv) (Q := Q) (b := b) (n := n) (i := i) (p := q) (T := T) hb hE hV hP hi hq hl
    rw [hw] at hW
    have k0 := key (min (q + l) 7 + 1 - (q - l)) (q - l) (by omega) (Nat.le_refl _) none
    rw [elo] at k0
    have m0 := am_max0 (q := q) (l := l) (by omega) (by omega)
    have m1 : (if q + l < 7 then nI (q + l) else nI 7) = nI (min (q + l) 7) := by
      by_cases h : q + l < 7
      · rw [if_pos h, show min (q + l) 7 = q + l by omega]
      · rw [if_neg h, show min (q + l) 7 = 7 by omega]
    simp (config := { maxSteps := 1000000 }) (disch := first | exact am_nl_i | exact am_nl_r | exact am_nl_n | exact am_l0 | exact am_l1 | exact am_l2 | exact am_l3 | assumption | omega) only [wp_ldc, wp_sipush, wp_ldc_w, wp_lconst, wp_iadd, wp_isub, wp_imul, wp_iand, wp_ior, wp_ixor, wp_ishl, wp_ishr, wp_iushr, wp_idiv, wp_irem, wp_ineg, wp_i2b, wp_i2s, wp_i2c, wp_i2l, wp_ladd, wp_lmul, wp_lcmp, wp_dup_i, wp_dup_r, wp_dup2, wp_pop, wp_getfield, wp_putfield, wp_getstatic, wp_iaload, wp_baload, wp_aaload, wp_iastore, wp_arraylength, wp_goto, wp_fall, wp_ieq, wp_ine, wp_ilt, wp_ige, wp_igt, wp_ile, wp_ceq, wp_cne, wp_clt, wp_cge, wp_cgt, wp_cle, wp_sw, wp_ret0, wp_ret1z, wp_ret1o, wp_ret1, wp_ret2, wp_ret3, wp_ret4, wp_ret5, wp_return, wp_min, wp_max, wp_abs, am_ex, gset_eq, gset_ne, upd_eq, upd_ne, gset_gset, am_ci_1, am_ci_6, am_toList_some, am_toList_none, true_implies, false_implies, and_self, and_true, true_and, not_true_eq_false, not_false_eq_true, imp_self, implies_true, Classical.not_not, if_true, if_false, false_and, and_false, or_false, false_or, true_or, or_true, Nat.reduceAdd, Nat.reduceMul, Nat.reduceSub, Nat.reduceLT, Nat.reduceLeDiff, Nat.reduceEqDiff, Nat.reduceBneDiff, Nat.add_zero, Nat.zero_add, reduceCtorEq, wil0, wal0, wis0, wic0, wil1, wal1, wis1, wic1, wil2, wll2, wal2, wis2, was2, wls2, wic2, wil3, wis3, wic3, wic3m, wic3s, wil4, wis4, wic4, wil5, wis5, wic5, wic5m, wil6, wll6, wal6, wis6, was6, wls6, wic6, wil7, wal7, wis7, was7, wic7, wil8, wis8, wic8, wil9, wis9, wic9, wil10, wis10, wic10, am_nI_inj, am_nI_lt, am_nI_le, nI_add, pk_mul, am_nI_sub, am_add_m1, am_gfs, am_pfs, am_alds, am_asts, am_lens, tgf0, tgf1, tgf2, tgf3, tgf4, tgf5, tgf6, tgf7, tgf8, tgf9, tgf10, tgf11, tgf12, tpf7, tpf8, tpf9, tal0, tas0, tln0, tal1, tas1, tln1, tal2, tas2, tln2, tal3, tas3, tln3, tal4, tas4, tln4, tal5, tas5, tln5, tal6, tas6, tln6, tal7, tas7, tln7, tal8, tas8, tln8, tal9, tas9, tln9, bk21_0, bk21_16, am_B21_0, am_B21_16, bn21_55, f3, f4, C_X4_isPlace, e1, e2, bI_t, hW, m0, m1]
    exact k0
theorem C_X3_bestPlaceFor {X : AmX} {G : GG} {k : Nat} {r : List Instr} {lv : LV} {st : List Value} {Q : Option Value → GG → Prop} {b n i : Nat} {T : TT} {t : Nat} {z : Int32} (hb : TB b) (hE : TE G b n T t z) (hV : TV n T) (hP : PL G b n T) (hi : i < n) (hl : st.length ≤ 4) : WP X k (.invokeinterface 21 2 :: r) lv ((.int (nI i)) :: (.ref b) :: st) G Q ↔ WP X k r lv ((.int (eP (chN T n i))) :: st) (G) Q := WP_ev (E_X3_bestPlaceFor b n i T t z hb hE hV hP hi) (by decide) rfl rfl hl (am_rcv_of rfl (tcls hb))
theorem X3_settle {X : AmX} {G : GG} (b n : Nat) (T : TT) (t : Nat) (z : Int32) (hb : TB b) (hE : TE G b n T t z) (hV : TV n T) : ∃ G1, Ev X 20 [.ref b] G none G1 ∧ TE G1 b n T t z ∧ SE G1 b n T ∧ ∀ o, ¬ (b + 8 ≤ o ∧ o ≤ b + 10) → G1 o = G o := by
  suffices h : WPm X 20 [.ref b] G (fun v G1 => v = none ∧ TE G1 b n T t z ∧ SE G1 b n T ∧ ∀ o, ¬ (b + 8 ≤ o ∧ o ≤ b + 10) → G1 o = G o) by
    obtain ⟨v, G1, h1, rfl, h2⟩ := WPm_ev h
    exact ⟨G1, h1, h2⟩
  have hb5 : b < 500 := hb.lt
  have hb4 : b ≤ 34 := by rcases hb with rfl | rfl | rfl | rfl <;> decide
  obtain ⟨v1, v2, v3, v4⟩ := id hV
  obtain ⟨a0, a1, a2, a3, a4, a5, a6, a7, a8, a9⟩ := id hE
  show WP X 20 (am_blk 20 0) [some (.ref b), none, none] [] G _
  generalize hQ : (fun (v : Option Value) (G1 : GG) => v = none ∧ TE G1 b n T t z ∧ SE G1 b n T ∧ ∀ o, ¬ (b + 8 ≤ o ∧ o ≤ b + 10) → G1 o = G o) = Q
  have key2 : ∀ d i : Nat, i + d = n → ∀ (G' : GG) (x : Option Value), (∀ o, ¬ (b + 8 ≤ o ∧ o ≤ b + 10) → G' o = G o) → PL G' b n T → (∀ j, j < i → G' (b + 9) j = eP (chN T n j)) → (∀ p, p < 8 → G' (b + 10) p = nI (cntN (chN T n) p i)) → WP X 20 (am_blk 20 61) [some (.ref b), some (.int (nI i)), x] [] G' Q := by
    intro d
    induction d with
    | zero =>
      intro i hi G' x hf hp hc hn
      obtain rfl : i = n := by omega
      have hE' : TE G' b i T t z := TE_congr hE (fun o h1 h2 => hf o (by omega))
      have c0 := hE'.1
      rw [bh20_61]
      simp (config := { maxSteps := 1000000 }) (disch := first | exact am_nl_i | exact am_nl_r | exact am_nl_n | exact am_l0 | exact am_l1 | exact am_l2 | exact am_l3 | assumption | omega) only [wp_ldc, wp_sipush, wp_ldc_w, wp_lconst, wp_iadd, wp_isub, wp_imul, wp_iand, wp_ior, wp_ixor, wp_ishl, wp_ishr, wp_iushr, wp_idiv, wp_irem, wp_ineg, wp_i2b, wp_i2s, wp_i2c, wp_i2l, wp_ladd, wp_lmul, wp_lcmp, wp_dup_i, wp_dup_r, wp_dup2, wp_pop, wp_getfield, wp_putfield, wp_getstatic, wp_iaload, wp_baload, wp_aaload, wp_iastore, wp_arraylength, wp_goto, wp_fall, wp_ieq, wp_ine, wp_ilt, wp_ige, wp_igt, wp_ile, wp_ceq, wp_cne, wp_clt, wp_cge, wp_cgt, wp_cle, wp_sw, wp_ret0, wp_ret1z, wp_ret1o, wp_ret1, wp_ret2, wp_ret3, wp_ret4, wp_ret5, wp_return, wp_min, wp_max, wp_abs, am_ex, gset_eq, gset_ne, upd_eq, upd_ne, gset_gset, am_ci_1, am_ci_6, am_toList_some, am_toList_none, true_implies, false_implies, and_self, and_true, true_and, not_true_eq_false, not_false_eq_true, imp_self, implies_true, Classical.not_not, if_true, if_false, false_and, and_false, or_false, false_or, true_or, or_true, Nat.reduceAdd, Nat.reduceMul, Nat.reduceSub, Nat.reduceLT, Nat.reduceLeDiff, Nat.reduceEqDiff, Nat.reduceBneDiff, Nat.add_zero, Nat.zero_add, reduceCtorEq, wil0, wal0, wis0, wic0, wil1, wal1, wis1, wic1, wil2, wll2, wal2, wis2, was2, wls2, wic2, wil3, wis3, wic3, wic3m, wic3s, wil4, wis4, wic4, wil5, wis5, wic5, wic5m, wil6, wll6, wal6, wis6, was6, wls6, wic6, wil7, wal7, wis7, was7, wic7, wil8, wis8, wic8, wil9, wis9, wic9, wil10, wis10, wic10, am_nI_inj, am_nI_lt, am_nI_le, nI_add, pk_mul, am_nI_sub, am_add_m1, am_gfs, am_pfs, am_alds, am_asts, am_lens, tgf0, tgf1, tgf2, tgf3, tgf4, tgf5, tgf6, tgf7, tgf8, tgf9, tgf10, tgf11, tgf12, tpf7, tpf8, tpf9, tal0, tas0, tln0, tal1, tas1, tln1, tal2, tas2, tln2, tal3, tas3, tln3, tal4, tas4, tln4, tal5, tas5, tln5, tal6, tas6, tln6, tal7, tas7, tln7, tal8, tas8, tln8, tal9, tas9, tln9, bk20_105, am_B20_61, am_B20_105, c0, Nat.le_refl]
      rw [← hQ]
      exact ⟨rfl, hE', ⟨hp, hc, hn⟩, hf⟩
    | succ d ih =>
      intro i hi G' x hf hp hc hn
      have hE' : TE G' b n T t z := TE_congr hE (fun o h1 h2 => hf o (by omega))
      have c0 := hE'.1
      have hin : i < n := by omega
      have hi8 : i < 8 := by omega
      have hni : (n ≤ i) = False := eq_false (by omega)
      have hcl := chN_le (T := T) (n := n) (i := i) (v3 i hin).2.1
      have hB := fun (st : List Value) (r : List Instr) (lv : LV) (Q : Option Value → GG → Prop) (hl : st.length ≤ 4) => C_X3_bestPlaceFor (X := X) (k := 20) (st := st) (r := r) (lv := lv) (Q := Q) (b := b) (n := n) (i := i) (T := T) hb hE' hV hp hin hl
      have e2 : (nI 1 = nI 0) = False := eq_false (by decide)
      rw [bh20_61]
      generalize hcc : chN T n i = c at hcl hB
      by_cases h8 : c = 8
      · subst h8
        have e1 : inR nM (nI 0) (nI 7) = false := by decide
        rw [eP_8] at hB
        simp (config := { maxSteps := 1000000 }) (disch := first | exact am_nl_i | exact am_nl_r | exact am_nl_n | exact am_l0 | exact am_l1 | exact am_l2 | exact am_l3 | assumption | omega) only [wp_ldc, wp_sipush, wp_ldc_w, wp_lconst, wp_iadd, wp_isub, wp_imul, wp_iand, wp_ior, wp_ixor, wp_ishl, wp_ishr, wp_iushr, wp_idiv, wp_irem, wp_ineg, wp_i2b, wp_i2s, wp_i2c, wp_i2l, wp_ladd, wp_lmul, wp_lcmp, wp_dup_i, wp_dup_r, wp_dup2, wp_pop, wp_getfield, wp_putfield, wp_getstatic, wp_iaload, wp_baload, wp_aaload, wp_iastore, wp_arraylength, wp_goto, wp_fall, wp_ieq, wp_ine, wp_ilt, wp_ige, wp_igt, wp_ile, wp_ceq, wp_cne, wp_clt, wp_cge, wp_cgt, wp_cle, wp_sw, wp_ret0, wp_ret1z, wp_ret1o, wp_ret1, wp_ret2, wp_ret3, wp_ret4, wp_ret5, wp_return, wp_min, wp_max, wp_abs, am_ex, gset_eq, gset_ne, upd_eq, upd_ne, gset_gset, am_ci_1, am_ci_6, am_toList_some, am_toList_none, true_implies, false_implies, and_self, and_true, true_and, not_true_eq_false, not_false_eq_true, imp_self, implies_true, Classical.not_not, if_true, if_false, false_and, and_false, or_false, false_or, true_or, or_true, Nat.reduceAdd, Nat.reduceMul, Nat.reduceSub, Nat.reduceLT, Nat.reduceLeDiff, Nat.reduceEqDiff, Nat.reduceBneDiff, Nat.add_zero, Nat.zero_add, reduceCtorEq, wil0, wal0, wis0, wic0, wil1, wal1, wis1, wic1, wil2, wll2, wal2, wis2, was2, wls2, wic2, wil3, wis3, wic3, wic3m, wic3s, wil4, wis4, wic4, wil5, wis5, wic5, wic5m, wil6, wll6, wal6, wis6, was6, wls6, wic6, wil7, wal7, wis7, was7, wic7, wil8, wis8, wic8, wil9, wis9, wic9, wil10, wis10, wic10, am_nI_inj, am_nI_lt, am_nI_le, nI_add, pk_mul, am_nI_sub, am_add_m1, am_gfs, am_pfs, am_alds, am_asts, am_lens, tgf0, tgf1, tgf2, tgf3, tgf4, tgf5, tgf6, tgf7, tgf8, tgf9, tgf10, tgf11, tgf12, tpf7, tpf8, tpf9, tal0, tas0, tln0, tal1, tas1, tln1, tal2, tas2, tln2, tal3, tas3, tln3, tal4, tas4, tln4, tal5, tas5, tln5, tal6, tas6, tln6, tal7, tas7, tln7, tal8, tas8, tln8, tal9, tas9, tln9, bk20_99, am_B20_61, am_B20_99, bn20_61, c0, hni, hB, C_X4_isPlace, e1, bI_f]
        refine ih (i + 1) (by omega) _ _ ?_ ?_ ?_ ?_
        · intro o ho; rw [gset_ne (by omega)]; exact hf o ho
        · intro p hp8; rw [gset_ne (by omega)]; exact hp p hp8
        · intro j hj
          rw [gset_eq]
          by_cases hji : j = i
          · subst hji; rw [upd_eq, hcc, eP_8]
          · rw [upd_ne hji]; exact hc j (by omega)
        · intro p hp8
          rw [gset_ne (by omega), hn p hp8]
          rw [cntN_s]
          rw [hcc, if_neg (by omega), Nat.add_zero]
      · have e1 : inR (nI c) (nI 0) (nI 7) = true := by rw [inR_nI (by omega) (by omega) (by omega)]; simp; omega
        have hc8 : c < 8 := by omega
        rw [eP_lt h8] at hB
        have hnc := hn c hc8
        simp (config := { maxSteps := 1000000 }) (disch := first | exact am_nl_i | exact am_nl_r | exact am_nl_n | exact am_l0 | exact am_l1 | exact am_l2 | exact am_l3 | assumption | omega) only [wp_ldc, wp_sipush, wp_ldc_w, wp_lconst, wp_iadd, wp_isub, wp_imul, wp_iand, wp_ior, wp_ixor, wp_ishl, wp_ishr, wp_iushr, wp_idiv, wp_irem, wp_ineg, wp_i2b, wp_i2s, wp_i2c, wp_i2l, wp_ladd, wp_lmul, wp_lcmp, wp_dup_i, wp_dup_r, wp_dup2, wp_pop, wp_getfield, wp_putfield, wp_getstatic, wp_iaload, wp_baload, wp_aaload, wp_iastore, wp_arraylength, wp_goto, wp_fall, wp_ieq, wp_ine, wp_ilt, wp_ige, wp_igt, wp_ile, wp_ceq, wp_cne, wp_clt, wp_cge, wp_cgt, wp_cle, wp_sw, wp_ret0, wp_ret1z, wp_ret1o, wp_ret1, wp_ret2, wp_ret3, wp_ret4, wp_ret5, wp_return, wp_min, wp_max, wp_abs, am_ex, gset_eq, gset_ne, upd_eq, upd_ne, gset_gset, am_ci_1, am_ci_6, am_toList_some, am_toList_none, true_implies, false_implies, and_self, and_true, true_and, not_true_eq_false, not_false_eq_true, imp_self, implies_true, Classical.not_not, if_true, if_false, false_and, and_false, or_false, false_or, true_or, or_true, Nat.reduceAdd, Nat.reduceMul, Nat.reduceSub, Nat.reduceLT, Nat.reduceLeDiff, Nat.reduceEqDiff, Nat.reduceBneDiff, Nat.add_zero, Nat.zero_add, reduceCtorEq, wil0, wal0, wis0, wic0, wil1, wal1, wis1, wic1, wil2, wll2, wal2, wis2, was2, wls2, wic2, wil3, wis3, wic3, wic3m, wic3s, wil4, wis4, wic4, wil5, wis5, wic5, wic5m, wil6, wll6, wal6, wis6, was6, wls6, wic6, wil7, wal7, wis7, was7, wic7, wil8, wis8, wic8, wil9, wis9, wic9, wil10, wis10, wic10, am_nI_inj, am_nI_lt, am_nI_le, nI_add, pk_mul, am_nI_sub, am_add_m1, am_gfs, am_pfs, am_alds, am_asts, am_lens, tgf0, tgf1, tgf2, tgf3, tgf4, tgf5, tgf6, tgf7, tgf8, tgf9, tgf10, tgf11, tgf12, tpf7, tpf8, tpf9, tal0, tas0, tln0, tal1, tas1, tln1, tal2, tas2, tln2, tal3, tas3, tln3, tal4, tas4, tln4, tal5, tas5, tln5, tal6, tas6, tln6, tal7, tas7, tln7, tal8, tas8, tln8, tal9, tas9, tln9, bk20_99, am_B20_61, am_B20_99, bn20_61, c0, hni, hB, C_X4_isPlace, e1, e2, bI_t, hnc]
        refine ih (i + 1) (by omega) _ _ ?_ ?_ ?_ ?_
        · intro o ho; rw [gset_ne (by omega), gset_ne (by omega)]; exact hf o ho
        · intro p hp8; rw [gset_ne (by omega), gset_ne (by omega)]; exact hp p hp8
        · intro j hj
          rw [gset_ne (by omega), gset_eq]
          by_cases hji : j = i
          · subst hji; rw [upd_eq, hcc, eP_lt h8]
          · rw [upd_ne hji]; exact hc j (by omega)
        · intro p hp8
          rw [gset_eq]
          rw [cntN_s]
          rw [hcc]
          by_cases hpc : p = c
          · subst hpc; rw [upd_eq, if_pos rfl]
          · rw [upd_ne hpc, if_neg (fun z => hpc z.symm), Nat.add_zero]; exact hn p hp8
  have key1 : ∀ d i : Nat, i + d = n → ∀ (G' : GG) (x : Option Value), (∀ o, ¬ (b + 8 ≤ o ∧ o ≤ b + 10) → G' o = G o) → (∀ p, p < 8 → G' (b + 8) p = nI (cntN (T 2) p i)) → (∀ p, p < 8 → G' (b + 10) p = nI 0) → WP X 20 (am_blk 20 18) [some (.ref b), some (.int (nI i)), x] [] G' Q := by
    intro d
    induction d with
    | zero =>
      intro i hi G' x hf hp hn
      obtain rfl : i = n := by omega
      have hE' : TE G' b i T t z := TE_congr hE (fun o h1 h2 => hf o (by omega))
      have c0 := hE'.1
      rw [bh20_18]
      simp (config := { maxSteps := 1000000 }) (disch := first | exact am_nl_i | exact am_nl_r | exact am_nl_n | exact am_l0 | exact am_l1 | exact am_l2 | exact am_l3 | assumption | omega) only [wp_ldc, wp_sipush, wp_ldc_w, wp_lconst, wp_iadd, wp_isub, wp_imul, wp_iand, wp_ior, wp_ixor, wp_ishl, wp_ishr, wp_iushr, wp_idiv, wp_irem, wp_ineg, wp_i2b, wp_i2s, wp_i2c, wp_i2l, wp_ladd, wp_lmul, wp_lcmp, wp_dup_i, wp_dup_r, wp_dup2, wp_pop, wp_getfield, wp_putfield, wp_getstatic, wp_iaload, wp_baload, wp_aaload, wp_iastore, wp_arraylength, wp_goto, wp_fall, wp_ieq, wp_ine, wp_ilt, wp_ige, wp_igt, wp_ile, wp_ceq, wp_cne, wp_clt, wp_cge, wp_cgt, wp_cle, wp_sw, wp_ret0, wp_ret1z, wp_ret1o, wp_ret1, wp_ret2, wp_ret3, wp_ret4, wp_ret5, wp_return, wp_min, wp_max, wp_abs, am_ex, gset_eq, gset_ne, upd_eq, upd_ne, gset_gset, am_ci_1, am_ci_6, am_toList_some, am_toList_none, true_implies, false_implies, and_self, and_true, true_and, not_true_eq_false, not_false_eq_true, imp_self, implies_true, Classical.not_not, if_true, if_false, false_and, and_false, or_false, false_or, true_or, or_true, Nat.reduceAdd, Nat.reduceMul, Nat.reduceSub, Nat.reduceLT, Nat.reduceLeDiff, Nat.reduceEqDiff, Nat.reduceBneDiff, Nat.add_zero, Nat.zero_add, reduceCtorEq, wil0, wal0, wis0, wic0, wil1, wal1, wis1, wic1, wil2, wll2, wal2, wis2, was2, wls2, wic2, wil3, wis3, wic3, wic3m, wic3s, wil4, wis4, wic4, wil5, wis5, wic5, wic5m, wil6, wll6, wal6, wis6, was6, wls6, wic6, wil7, wal7, wis7, was7, wic7, wil8, wis8, wic8, wil9, wis9, wic9, wil10, wis10, wic10, am_nI_inj, am_nI_lt, am_nI_le, nI_add, pk_mul, am_nI_sub, am_add_m1, am_gfs, am_pfs, am_alds, am_asts, am_lens, tgf0, tgf1, tgf2, tgf3, tgf4, tgf5, tgf6, tgf7, tgf8, tgf9, tgf10, tgf11, tgf12, tpf7, tpf8, tpf9, tal0, tas0, tln0, tal1, tas1, tln1, tal2, tas2, tln2, tal3, tas3, tln3, tal4, tas4, tln4, tal5, tas5, tln5, tal6, tas6, tln6, tal7, tas7, tln7, tal8, tas8, tln8, tal9, tas9, tln9, bk20_59, am_B20_18, am_B20_59, bn20_61, c0, Nat.le_refl]
      exact key2 i 0 (by omega) _ _ hf hp (fun j hj => absurd hj (Nat.not_lt_zero j)) hn
    | succ d ih =>
      intro i hi G' x hf hp hn
      have hE' : TE G' b n T t z := TE_congr hE (fun o h1 h2 => hf o (by omega))
      have c0 := hE'.1
      have hin : i < n := by omega
      have hi8 : i < 8 := by omega
      have hni : (n ≤ i) = False := eq_false (by omega)
      have hcl := (v3 i hin).2.1
      have e2 : (nI 1 = nI 0) = False := eq_false (by decide)
      have c5 := hE'.2.2.2.2.2.1 i hin
      rw [bh20_18]
      generalize hcc : T 2 i = c at hcl c5
      by_cases h8 : c = 8
      · subst h8
        have e1 : inR nM (nI 0) (nI 7) = false := by decide
        rw [eP_8] at c5
        simp (config := { maxSteps := 1000000 }) (disch := first | exact am_nl_i | exact am_nl_r | exact am_nl_n | exact am_l0 | exact am_l1 | exact am_l2 | exact am_l3 | assumption | omega) only [wp_ldc, wp_sipush, wp_ldc_w, wp_lconst, wp_iadd, wp_isub, wp_imul, wp_iand, wp_ior, wp_ixor, wp_ishl, wp_ishr, wp_iushr, wp_idiv, wp_irem, wp_ineg, wp_i2b, wp_i2s, wp_i2c, wp_i2l, wp_ladd, wp_lmul, wp_lcmp, wp_dup_i, wp_dup_r, wp_dup2, wp_pop, wp_getfield, wp_putfield, wp_getstatic, wp_iaload, wp_baload, wp_aaload, wp_iastore, wp_arraylength, wp_goto, wp_fall, wp_ieq, wp_ine, wp_ilt, wp_ige, wp_igt, wp_ile, wp_ceq, wp_cne, wp_clt, wp_cge, wp_cgt, wp_cle, wp_sw, wp_ret0, wp_ret1z, wp_ret1o, wp_ret1, wp_ret2, wp_ret3, wp_ret4, wp_ret5, wp_return, wp_min, wp_max, wp_abs, am_ex, gset_eq, gset_ne, upd_eq, upd_ne, gset_gset, am_ci_1, am_ci_6, am_toList_some, am_toList_none, true_implies, false_implies, and_self, and_true, true_and, not_true_eq_false, not_false_eq_true, imp_self, implies_true, Classical.not_not, if_true, if_false, false_and, and_false, or_false, false_or, true_or, or_true, Nat.reduceAdd, Nat.reduceMul, Nat.reduceSub, Nat.reduceLT, Nat.reduceLeDiff, Nat.reduceEqDiff, Nat.reduceBneDiff, Nat.add_zero, Nat.zero_add, reduceCtorEq, wil0, wal0, wis0, wic0, wil1, wal1, wis1, wic1, wil2, wll2, wal2, wis2, was2, wls2, wic2, wil3, wis3, wic3, wic3m, wic3s, wil4, wis4, wic4, wil5, wis5, wic5, wic5m, wil6, wll6, wal6, wis6, was6, wls6, wic6, wil7, wal7, wis7, was7, wic7, wil8, wis8, wic8, wil9, wis9, wic9, wil10, wis10, wic10, am_nI_inj, am_nI_lt, am_nI_le, nI_add, pk_mul, am_nI_sub, am_add_m1, am_gfs, am_pfs, am_alds, am_asts, am_lens, tgf0, tgf1, tgf2, tgf3, tgf4, tgf5, tgf6, tgf7, tgf8, tgf9, tgf10, tgf11, tgf12, tpf7, tpf8, tpf9, tal0, tas0, tln0, tal1, tas1, tln1, tal2, tas2, tln2, tal3, tas3, tln3, tal4, tas4, tln4, tal5, tas5, tln5, tal6, tas6, tln6, tal7, tas7, tln7, tal8, tas8, tln8, tal9, tas9, tln9, bk20_53, am_B20_18, am_B20_53, bn20_18, c0, hni, c5, C_X4_isPlace, e1, bI_f]
        refine ih (i + 1) (by omega) _ _ hf ?_ hn
        intro p hp8
        rw [hp p hp8]
        rw [cntN_s]
        rw [hcc, if_neg (by omega), Nat.add_zero]
      · have e1 : inR (nI c) (nI 0) (nI 7) = true := by rw [inR_nI (by omega) (by omega) (by omega)]; simp; omega
        have hc8 : c < 8 := by omega
        rw [eP_lt h8] at c5
        have hnc := hp c hc8
        simp (config := { maxSteps := 1000000 }) (disch := first | exact am_nl_i | exact am_nl_r | exact am_nl_n | exact am_l0 | exact am_l1 | exact am_l2 | exact am_l3 | assumption | omega) only [wp_ldc, wp_sipush, wp_ldc_w, wp_lconst, wp_iadd, wp_isub, wp_imul, wp_iand, wp_ior, wp_ixor, wp_ishl, wp_ishr, wp_iushr, wp_idiv, wp_irem, wp_ineg, wp_i2b, wp_i2s, wp_i2c, wp_i2l, wp_ladd, wp_lmul, wp_lcmp, wp_dup_i, wp_dup_r, wp_dup2, wp_pop, wp_getfield, wp_putfield, wp_getstatic, wp_iaload, wp_baload, wp_aaload, wp_iastore, wp_arraylength, wp_goto, wp_fall, wp_ieq, wp_ine, wp_ilt, wp_ige, wp_igt, wp_ile, wp_ceq, wp_cne, wp_clt, wp_cge, wp_cgt, wp_cle, wp_sw, wp_ret0, wp_ret1z, wp_ret1o, wp_ret1, wp_ret2, wp_ret3, wp_ret4, wp_ret5, wp_return, wp_min, wp_max, wp_abs, am_ex, gset_eq, gset_ne, upd_eq, upd_ne, gset_gset, am_ci_1, am_ci_6, am_toList_some, am_toList_none, true_implies, false_implies, and_self, and_true, true_and, not_true_eq_false, not_false_eq_true, imp_self, implies_true, Classical.not_not, if_true, if_false, false_and, and_false, or_false, false_or, true_or, or_true, Nat.reduceAdd, Nat.reduceMul, Nat.reduceSub, Nat.reduceLT, Nat.reduceLeDiff, Nat.reduceEqDiff, Nat.reduceBneDiff, Nat.add_zero, Nat.zero_add, reduceCtorEq, wil0, wal0, wis0, wic0, wil1, wal1, wis1, wic1, wil2, wll2, wal2, wis2, was2, wls2, wic2, wil3, wis3, wic3, wic3m, wic3s, wil4, wis4, wic4, wil5, wis5, wic5, wic5m, wil6, wll6, wal6, wis6, was6, wls6, wic6, wil7, wal7, wis7, was7, wic7, wil8, wis8, wic8, wil9, wis9, wic9, wil10, wis10, wic10, am_nI_inj, am_nI_lt, am_nI_le, nI_add, pk_mul, am_nI_sub, am_add_m1, am_gfs, am_pfs, am_alds, am_asts, am_lens, tgf0, tgf1, tgf2, tgf3, tgf4, tgf5, tgf6, tgf7, tgf8, tgf9, tgf10, tgf11, tgf12, tpf7, tpf8, tpf9, tal0, tas0, tln0, tal1, tas1, tln1, tal2, tas2, tln2, tal3, tas3, tln3, tal4, tas4, tln4, tal5, tas5, tln5, tal6, tas6, tln6, tal7, tas7, tln7, tal8, tas8, tln8, tal9, tas9, tln9, bk20_53, am_B20_18, am_B20_53, bn20_18, c0, hni, c5, C_X4_isPlace, e1, e2, bI_t, hnc]
        refine ih (i + 1) (by omega) _ _ ?_ ?_ ?_
        · intro o ho; rw [gset_ne (by omega)]; exact hf o ho
        · intro p hp8
          rw [gset_eq]
          rw [cntN_s]
          rw [hcc]
          by_cases hpc : p = c
          · subst hpc; rw [upd_eq, if_pos rfl]
          · rw [upd_ne hpc, if_neg (fun z => hpc z.symm), Nat.add_zero]; exact hp p hp8
        · intro p hp8; rw [gset_ne (by omega)]; exact hn p hp8
  have hF1 := fun (G : GG) (st : List Value) (r : List Instr) (lv : LV) (Q : Option Value → GG → Prop) (hl : st.length ≤ 4) => C_J7_fill (X := X) (G := G) (k := 20) (st := st) (r := r) (lv := lv) (Q := Q) (o := b + 8) (n := 8) (v := nI 0) (tsh7 hb) (by decide) (by omega) hl
  have hF2 := fun (G : GG) (st : List Value) (r : List Instr) (lv : LV) (Q : Option Value → GG → Prop) (hl : st.length ≤ 4) => C_J7_fill (X := X) (G := G) (k := 20) (st := st) (r := r) (lv := lv) (Q := Q) (o := b + 10) (n := 8) (v := nI 0) (tsh9 hb) (by decide) (by omega) hl
  simp (config := { maxSteps := 1000000 }) (disch := first | exact am_nl_i | exact am_nl_r | exact am_nl_n | exact am_l0 | exact am_l1 | exact am_l2 | exact am_l3 | assumption | omega) only [wp_ldc, wp_sipush, wp_ldc_w, wp_lconst, wp_iadd, wp_isub, wp_imul, wp_iand, wp_ior, wp_ixor, wp_ishl, wp_ishr, wp_iushr, wp_idiv, wp_irem, wp_ineg, wp_i2b, wp_i2s, wp_i2c, wp_i2l, wp_ladd, wp_lmul, wp_lcmp, wp_dup_i, wp_dup_r, wp_dup2, wp_pop, wp_getfield, wp_putfield, wp_getstatic, wp_iaload, wp_baload, wp_aaload, wp_iastore, wp_arraylength, wp_goto, wp_fall, wp_ieq, wp_ine, wp_ilt, wp_ige, wp_igt, wp_ile, wp_ceq, wp_cne, wp_clt, wp_cge, wp_cgt, wp_cle, wp_sw, wp_ret0, wp_ret1z, wp_ret1o, wp_ret1, wp_ret2, wp_ret3, wp_ret4, wp_ret5, wp_return, wp_min, wp_max, wp_abs, am_ex, gset_eq, gset_ne, upd_eq, upd_ne, gset_gset, am_ci_1, am_ci_6, am_toList_some, am_toList_none, true_implies, false_implies, and_self, and_true, true_and, not_true_eq_false, not_false_eq_true, imp_self, implies_true, Classical.not_not, if_true, if_false, false_and, and_false, or_false, false_or, true_or, or_true, Nat.reduceAdd, Nat.reduceMul, Nat.reduceSub, Nat.reduceLT, Nat.reduceLeDiff, Nat.reduceEqDiff, Nat.reduceBneDiff, Nat.add_zero, Nat.zero_add, reduceCtorEq, wil0, wal0, wis0, wic0, wil1, wal1, wis1, wic1, wil2, wll2, wal2, wis2, was2, wls2, wic2, wil3, wis3, wic3, wic3m, wic3s, wil4, wis4, wic4, wil5, wis5, wic5, wic5m, wil6, wll6, wal6, wis6, was6, wls6, wic6, wil7, wal7, wis7, was7, wic7, wil8, wis8, wic8, wil9, wis9, wic9, wil10, wis10, wic10, am_nI_inj, am_nI_lt, am_nI_le, nI_add, pk_mul, am_nI_sub, am_add_m1, am_gfs, am_pfs, am_alds, am_asts, am_lens, tgf0, tgf1, tgf2, tgf3, tgf4, tgf5, tgf6, tgf7, tgf8, tgf9, tgf10, tgf11, tgf12, tpf7, tpf8, tpf9, tal0, tas0, tln0, tal1, tas1, tln1, tal2, tas2, tln2, tal3, tas3, tln3, tal4, tas4, tln4, tal5, tas5, tln5, tal6, tas6, tln6, tal7, tas7, tln7, tal8, tas8, tln8, tal9, tas9, tln9, bk20_0, am_B20_0, bn20_18, hF1, hF2]
  refine key1 n 0 (by omega) _ _ ?_ ?_ ?_
  · intro o ho; rw [gset_ne (by omega), gset_ne (by omega)]
  · intro p hp8; rw [gset_ne (by omega), gset_eq]; unfold flt; rw [if_pos hp8]; rfl
  · intro p hp8; rw [gset_eq]; unfold flt; rw [if_pos hp8]
end
section
/-! ===== the class's town: what one gets, who regrets, sets, sums ===== -/
def setN (f : Nat → Bool) : Nat → Nat
  | 0 => 0
  | n + 1 => setN f n + if f n = true then 2 ^ n else 0
theorem setN_lt (f : Nat → Bool) : ∀ n, setN f n < 2 ^ n
  | 0 => by show 0 < 1; decide
  | n + 1 => by
    have := setN_lt f n
    unfold setN
    rw [Nat.pow_succ]
    split <;> omega
theorem setN_congr {f g : Nat → Bool} : ∀ n, (∀ j, j < n → f j = g j) → setN f n = setN g n
  | 0, _ => rfl
  | n + 1, h => by
    unfold setN
    rw [setN_congr n (fun j hj => h j (by omega)), h n (by omega)]
theorem or_step0 : ∀ i, i < 8 → ∀ m, m < 2 ^ i → nI m ||| (nI 1 <<< (nI i &&& 31)) = nI (m + 2 ^ i) := by decide +kernel
theorem or_zero (x : Int32) : x ||| nI 0 = x := by
  have : nI 0 = 0 := rfl
  rw [this]; exact Int32.or_zero
theorem setN_or {f : Nat → Bool} {i : Nat} (hi : i < 8) : (nI (setN f i) ||| if f i = true then nI 1 <<< (nI i &&& 31) else nI 0) = nI (setN f (i + 1)) := by
  rw [show setN f (i + 1) = setN f i + if f i = true then 2 ^ i else 0 from rfl]
  by_cases h : f i = true
  · rw [if_pos h, if_pos h]; exact or_step0 i hi _ (setN_lt f i)
  · rw [if_neg h, if_neg h, or_zero, Nat.add_zero]
def sumN (f : Nat → Nat) : Nat → Nat
  | 0 => 0
  | n + 1 => sumN f n + f n
theorem sumN_le {f : Nat → Nat} {m : Nat} : ∀ n, (∀ j, j < n → f j ≤ m) → sumN f n ≤ n * m
  | 0, _ => Nat.zero_le _
  | n + 1, h => by
    have := sumN_le n (fun j hj => h j (by omega))
    have := h n (by omega)
    unfold sumN
    rw [Nat.succ_mul]
    omega
theorem sumN_congr {f g : Nat → Nat} : ∀ n, (∀ j, j < n → f j = g j) → sumN f n = sumN g n
  | 0, _ => rfl
  | n + 1, h => by
    unfold sumN
    rw [sumN_congr n (fun j hj => h j (by omega)), h n (by omega)]
/-- the richest (8: nobody) -/
def richN (g : Nat → Nat) : Nat → Nat
  | 0 => 8
  | n + 1 => if richN g n = 8 ∨ g (richN g n) < g n then n else richN g n
theorem richN_le (g : Nat → Nat) : ∀ n, n ≤ 8 → richN g n = 8 ∨ richN g n < n
  | 0, _ => Or.inl rfl
  | n + 1, h => by
    unfold richN
    split
    · exact Or.inr (by omega)
    · have := richN_le g n (by omega); omega
def exB (f : Nat → Bool) : Nat → Bool
  | 0 => false
  | n + 1 => exB f n || f n
def regP (T : TT) (n i p : Nat) : Bool := decide (¬ p = chN T n i ∧ getN T n i < T 0 p / (ccN T n p + 1))
def regN (T : TT) (n i : Nat) : Bool := exB (regP T n i) 8
theorem exB_tail {f : Nat → Bool} {k : Nat} (h : f k = true) : ∀ d, exB f (k + 1 + d) = true
  | 0 => by show (exB f k || f k) = true; rw [h, Bool.or_true]
  | d + 1 => by show (exB f (k + 1 + d) || _) = true; rw [exB_tail h d, Bool.true_or]
theorem share_nat {x m : Nat} (hx : x < 2 ^ 31) (hm : m < 2 ^ 31) : (if m = 0 then nI 0 else nI x / nI m) = nI (x / m) := by
  by_cases h : m = 0
  · subst h; simp
  · rw [if_neg h, pk_div hx (by omega) hm]
theorem ccN_le (T : TT) (n p : Nat) : ccN T n p ≤ n := cntN_le _ _ _
theorem E_X3_getsNow {X : AmX} {G : GG} (b n i : Nat) (T : TT) (t : Nat) (z : Int32) (hb : TB b) (hE : TE G b n T t z) (hV : TV n T) (hS : SE G b n T) (hi : i < n) : Ev X 46 [.ref b, .int (nI i)] G (some (.int (nI (getN T n i)))) (G) := by
  have hb5 : b < 500 := hb.lt
  refine Ev_of ?_
  show WP X 46 (am_blk 46 0) [some (.ref b), some (.int (nI i)), none] [] G _
  obtain ⟨v1, v2, v3, v4⟩ := hV
  obtain ⟨a0, a1, a2, a3, a4, a5, a6, a7, a8, a9⟩ := hE
  obtain ⟨s1, s2, s3⟩ := hS
  have hi8 : i < 8 := by omega
  have f1 := s2 i hi
  have hcl := chN_le (T := T) (n := n) (i := i) (v3 i hi).2.1
  unfold getN
  generalize chN T n i = c at f1 hcl
  by_cases h8 : c = 8
  · subst h8
    rw [eP_8] at f1
    have e1 : inR nM (nI 0) (nI 7) = false := by decide
    simp (config := { maxSteps := 1000000 }) (disch := first | exact am_nl_i | exact am_nl_r | exact am_nl_n | exact am_l0 | exact am_l1 | exact am_l2 | exact am_l3 | assumption | omega) only [wp_ldc, wp_sipush, wp_ldc_w, wp_lconst, wp_iadd, wp_isub, wp_imul, wp_iand, wp_ior, wp_ixor, wp_ishl, wp_ishr, wp_iushr, wp_idiv, wp_irem, wp_ineg, wp_i2b, wp_i2s, wp_i2c, wp_i2l, wp_ladd, wp_lmul, wp_lcmp, wp_dup_i, wp_dup_r, wp_dup2, wp_pop, wp_getfield, wp_putfield, wp_getstatic, wp_iaload, wp_baload, wp_aaload, wp_iastore, wp_arraylength, wp_goto, wp_fall, wp_ieq, wp_ine, wp_ilt, wp_ige, wp_igt, wp_ile, wp_ceq, wp_cne, wp_clt, wp_cge, wp_cgt, wp_cle, wp_sw, wp_ret0, wp_ret1z, wp_ret1o, wp_ret1, wp_ret2, wp_ret3, wp_ret4, wp_ret5, wp_return, wp_min, wp_max, wp_abs, am_ex, gset_eq, gset_ne, upd_eq, upd_ne, gset_gset, am_ci_1, am_ci_6, am_toList_some, am_toList_none, true_implies, false_implies, and_self, and_true, true_and, not_true_eq_false, not_false_eq_true, imp_self, implies_true, Classical.not_not, if_true, if_false, false_and, and_false, or_false, false_or, true_or, or_true, Nat.reduceAdd, Nat.reduceMul, Nat.reduceSub, Nat.reduceLT, Nat.reduceLeDiff, Nat.reduceEqDiff, Nat.reduceBneDiff, Nat.add_zero, Nat.zero_add, reduceCtorEq, wil0, wal0, wis0, wic0, wil1, wal1, wis1, wic1, wil2, wll2, wal2, wis2, was2, wls2, wic2, wil3, wis3, wic3, wic3m, wic3s, wil4, wis4, wic4, wil5, wis5, wic5, wic5m, wil6, wll6, wal6, wis6, was6, wls6, wic6, wil7, wal7, wis7, was7, wic7, wil8, wis8, wic8, wil9, wis9, wic9, wil10, wis10, wic10, am_nI_inj, am_nI_lt, am_nI_le, nI_add, pk_mul, am_nI_sub, am_add_m1, am_gfs, am_pfs, am_alds, am_asts, am_lens, tgf0, tgf1, tgf2, tgf3, tgf4, tgf5, tgf6, tgf7, tgf8, tgf9, tgf10, tgf11, tgf12, tpf7, tpf8, tpf9, tal0, tas0, tln0, tal1, tas1, tln1, tal2, tas2, tln2, tal3, tas3, tln3, tal4, tas4, tln4, tal5, tas5, tln5, tal6, tas6, tln6, tal7, tas7, tln7, tal8, tas8, tln8, tal9, tas9, tln9, bs46, am_B46_0, am_B46_32, am_B46_33, f1, C_X4_isPlace, e1, bI_f]
  · rw [eP_lt h8] at f1
    have hc8 : c < 8 := by omega
    have f2 := s3 c hc8
    have f3 := a3 c hc8
    have e1 : inR (nI c) (nI 0) (nI 7) = true := by rw [inR_nI (by omega) (by omega) (by omega)]; simp; omega
    have e2 : (nI 1 = nI 0) = False := eq_false (by decide)
    have hcc := ccN_le T n c
    have hpz := v2 c hc8
    have hsh := fun (st : List Value) (r : List Instr) (lv : LV) (Q : Option Value → GG → Prop) (hl : st.length ≤ 4) => C_X4_shareOf (X := X) (G := G) (k := 46) (st := st) (r := r) (lv := lv) (Q := Q) (x := nI (T 0 c)) (m := ccN T n c) (by omega) hl
    rw [share_nat (by omega) (by omega)] at hsh
    simp (config := { maxSteps := 1000000 }) (disch := first | exact am_nl_i | exact am_nl_r | exact am_nl_n | exact am_l0 | exact am_l1 | exact am_l2 | exact am_l3 | assumption | omega) only [wp_ldc, wp_sipush, wp_ldc_w, wp_lconst, wp_iadd, wp_isub, wp_imul, wp_iand, wp_ior, wp_ixor, wp_ishl, wp_ishr, wp_iushr, wp_idiv, wp_irem, wp_ineg, wp_i2b, wp_i2s, wp_i2c, wp_i2l, wp_ladd, wp_lmul, wp_lcmp, wp_dup_i, wp_dup_r, wp_dup2, wp_pop, wp_getfield, wp_putfield, wp_getstatic, wp_iaload, wp_baload, wp_aaload, wp_iastore, wp_arraylength, wp_goto, wp_fall, wp_ieq, wp_ine, wp_ilt, wp_ige, wp_igt, wp_ile, wp_ceq, wp_cne, wp_clt, wp_cge, wp_cgt, wp_cle, wp_sw, wp_ret0, wp_ret1z, wp_ret1o, wp_ret1, wp_ret2, wp_ret3, wp_ret4, wp_ret5, wp_return, wp_min, wp_max, wp_abs, am_ex, gset_eq, gset_ne, upd_eq, upd_ne, gset_gset, am_ci_1, am_ci_6, am_toList_some, am_toList_none, true_implies, false_implies, and_self, and_true, true_and, not_true_eq_false, not_false_eq_true, imp_self, implies_true, Classical.not_not, if_true, if_false, false_and, and_false, or_false, false_or, true_or, or_true, Nat.reduceAdd, Nat.reduceMul, Nat.reduceSub, Nat.reduceLT, Nat.reduceLeDiff, Nat.reduceEqDiff, Nat.reduceBneDiff, Nat.add_zero, Nat.zero_add, reduceCtorEq, wil0, wal0, wis0, wic0, wil1, wal1, wis1, wic1, wil2, wll2, wal2, wis2, was2, wls2, wic2, wil3, wis3, wic3, wic3m, wic3s, wil4, wis4, wic4, wil5, wis5, wic5, wic5m, wil6, wll6, wal6, wis6, was6, wls6, wic6, wil7, wal7, wis7, was7, wic7, wil8, wis8, wic8, wil9, wis9, wic9, wil10, wis10, wic10, am_nI_inj, am_nI_lt, am_nI_le, nI_add, pk_mul, am_nI_sub, am_add_m1, am_gfs, am_pfs, am_alds, am_asts, am_lens, tgf0, tgf1, tgf2, tgf3, tgf4, tgf5, tgf6, tgf7, tgf8, tgf9, tgf10, tgf11, tgf12, tpf7, tpf8, tpf9, tal0, tas0, tln0, tal1, tas1, tln1, tal2, tas2, tln2, tal3, tas3, tln3, tal4, tas4, tln4, tal5, tas5, tln5, tal6, tas6, tln6, tal7, tas7, tln7, tal8, tas8, tln8, tal9, tas9, tln9, bs46, am_B46_0, am_B46_32, am_B46_33, f1, f2, f3, C_X4_isPlace, e1, e2, bI_t, hsh, h8]
theorem C_X3_getsNow {X : AmX} {G : GG} {k : Nat} {r : List Instr} {lv : LV} {st : List Value} {Q : Option Value → GG → Prop} {b n i : Nat} {T : TT} {t : Nat} {z : Int32} (hb : TB b) (hE : TE G b n T t z) (hV : TV n T) (hS : SE G b n T) (hi : i < n) (hl : st.length ≤ 4) : WP X k (.invokeinterface 46 2 :: r) lv ((.int (nI i)) :: (.ref b) :: st) G Q ↔ WP X k r lv ((.int (nI (getN T n i))) :: st) (G) Q := WP_ev (E_X3_getsNow b n i T t z hb hE hV hS hi) (by decide) rfl rfl hl (am_rcv_of rfl (tcls hb))
theorem getN_le {T : TT} {n i : Nat} (hV : TV n T) (hi : i < n) : getN T n i ≤ 9999 := by
  unfold getN
  split
  · omega
  · have := chN_le (T := T) (n := n) (i := i) (hV.2.2.1 i hi).2.1
    exact Nat.le_trans (Nat.div_le_self _ _) (hV.2.1 _ (by omega))
theorem E_X3_regretsNow {X : AmX} {G : GG} (b n i : Nat) (T : TT) (t : Nat) (z : Int32) (hb : TB b) (hE : TE G b n T t z) (hV : TV n T) (hS : SE G b n T) (hi : i < n) : Ev X 48 [.ref b, .int (nI i)] G (some (.int (bI (regN T n i)))) (G) := by
  have hb5 : b < 500 := hb.lt
  refine Ev_of ?_
  show WP X 48 (am_blk 48 0) [some (.ref b), some (.int (nI i)), none, none] [] G _
  obtain ⟨v1, v2, v3, v4⟩ := id hV
  obtain ⟨a0, a1, a2, a3, a4, a5, a6, a7, a8, a9⟩ := id hE
  obtain ⟨s1, s2, s3⟩ := id hS
  have hi8 : i < 8 := by omega
  have f1 := s2 i hi
  have hcl := chN_le (T := T) (n := n) (i := i) (v3 i hi).2.1
  have hgl := getN_le hV hi
  have key : ∀ d p : Nat, p + d = 8 → exB (regP T n i) p = false → WP X 48 (am_blk 48 8) [some (.ref b), some (.int (nI i)), some (.int (nI (getN T n i))), some (.int (nI p))] [] G (fun v H => v = some (.int (bI (regN T n i))) ∧ H = G) := by
    intro d
    induction d with
    | zero =>
      intro p hp hx
      obtain rfl : p = 8 := by omega
      have e : bI (regN T n i) = nI 0 := by unfold regN; rw [hx]; rfl
      rw [bh48_8, e]
      simp (config := { maxSteps := 1000000 }) (disch := first | exact am_nl_i | exact am_nl_r | exact am_nl_n | exact am_l0 | exact am_l1 | exact am_l2 | exact am_l3 | assumption | omega) only [wp_ldc, wp_sipush, wp_ldc_w, wp_lconst, wp_iadd, wp_isub, wp_imul, wp_iand, wp_ior, wp_ixor, wp_ishl, wp_ishr, wp_iushr, wp_idiv, wp_irem, wp_ineg, wp_i2b, wp_i2s, wp_i2c, wp_i2l, wp_ladd, wp_lmul, wp_lcmp, wp_dup_i, wp_dup_r, wp_dup2, wp_pop, wp_getfield, wp_putfield, wp_getstatic, wp_iaload, wp_baload, wp_aaload, wp_iastore, wp_arraylength, wp_goto, wp_fall, wp_ieq, wp_ine, wp_ilt, wp_ige, wp_igt, wp_ile, wp_ceq, wp_cne, wp_clt, wp_cge, wp_cgt, wp_cle, wp_sw, wp_ret0, wp_ret1z, wp_ret1o, wp_ret1, wp_ret2, wp_ret3, wp_ret4, wp_ret5, wp_return, wp_min, wp_max, wp_abs, am_ex, gset_eq, gset_ne, upd_eq, upd_ne, gset_gset, am_ci_1, am_ci_6, am_toList_some, am_toList_none, true_implies, false_implies, and_self, and_true, true_and, not_true_eq_false, not_false_eq_true, imp_self, implies_true, Classical.not_not, if_true, if_false, false_and, and_false, or_false, false_or, true_or, or_true, Nat.reduceAdd, Nat.reduceMul, Nat.reduceSub, Nat.reduceLT, Nat.reduceLeDiff, Nat.reduceEqDiff, Nat.reduceBneDiff, Nat.add_zero, Nat.zero_add, reduceCtorEq, wil0, wal0, wis0, wic0, wil1, wal1, wis1, wic1, wil2, wll2, wal2, wis2, was2, wls2, wic2, wil3, wis3, wic3, wic3m, wic3s, wil4, wis4, wic4, wil5, wis5, wic5, wic5m, wil6, wll6, wal6, wis6, was6, wls6, wic6, wil7, wal7, wis7, was7, wic7, wil8, wis8, wic8, wil9, wis9, wic9, wil10, wis10, wic10, am_nI_inj, am_nI_lt, am_nI_le, nI_add, pk_mul, am_nI_sub, am_add_m1, am_gfs, am_pfs, am_alds, am_asts, am_lens, tgf0, tgf1, tgf2, tgf3, tgf4, tgf5, tgf6, tgf7, tgf8, tgf9, tgf10, tgf11, tgf12, tpf7, tpf8, tpf9, tal0, tas0, tln0, tal1, tas1, tln1, tal2, tas2, tln2, tal3, tas3, tln3, tal4, tas4, tln4, tal5, tas5, tln5, tal6, tas6, tln6, tal7, tas7, tln7, tal8, tas8, tln8, tal9, tas9, tln9, bk48_53, am_B48_8, am_B48_53, Nat.le_refl]
    | succ d ih =>
      intro p hp hx
      have hp8 : p < 8 := by omega
      have hc0 : (8 ≤ p) = False := eq_false (by omega)
      have f2 := s3 p hp8
      have f3 := a3 p hp8
      have hcc := ccN_le T n p
      have hpz := v2 p hp8
      have hsh := fun (st : List Value) (r : List Instr) (lv : LV) (Q : Option Value → GG → Prop) (hl : st.length ≤ 4) => C_X4_shareOf (X := X) (G := G) (k := 48) (st := st) (r := r) (lv := lv) (Q := Q) (x := nI (T 0 p)) (m := ccN T n p + 1) (by omega) hl
      rw [share_nat (by omega) (by omega)] at hsh
      have hq : (nI p = eP (chN T n i)) = (p = chN T n i) := by
        have := eP_eq (x := chN T n i) (p := p) hcl hp8
        rw [eq_comm (a := nI p), this]; exact propext eq_comm
      have hle : T 0 p / (ccN T n p + 1) ≤ 9999 := Nat.le_trans (Nat.div_le_self _ _) hpz
      have hnx : exB (regP T n i) (p + 1) = regP T n i p := by show (exB (regP T n i) p || regP T n i p) = _; rw [hx, Bool.false_or]
      rw [bh48_8]
      generalize hdv : T 0 p / (ccN T n p + 1) = dv at hsh hle
      by_cases h1 : p = chN T n i
      · have hr : regP T n i p = false := by unfold regP; simp [h1]
        have ih := ih (p + 1) (by omega) (by rw [hnx, hr])
        have hq1 : (nI p = eP (chN T n i)) = True := by rw [hq]; exact eq_true h1
        simp (config := { maxSteps := 1000000 }) (disch := first | exact am_nl_i | exact am_nl_r | exact am_nl_n | exact am_l0 | exact am_l1 | exact am_l2 | exact am_l3 | assumption | omega) only [wp_ldc, wp_sipush, wp_ldc_w, wp_lconst, wp_iadd, wp_isub, wp_imul, wp_iand, wp_ior, wp_ixor, wp_ishl, wp_ishr, wp_iushr, wp_idiv, wp_irem, wp_ineg, wp_i2b, wp_i2s, wp_i2c, wp_i2l, wp_ladd, wp_lmul, wp_lcmp, wp_dup_i, wp_dup_r, wp_dup2, wp_pop, wp_getfield, wp_putfield, wp_getstatic, wp_iaload, wp_baload, wp_aaload, wp_iastore, wp_arraylength, wp_goto, wp_fall, wp_ieq, wp_ine, wp_ilt, wp_ige, wp_igt, wp_ile, wp_ceq, wp_cne, wp_clt, wp_cge, wp_cgt, wp_cle, wp_sw, wp_ret0, wp_ret1z, wp_ret1o, wp_ret1, wp_ret2, wp_ret3, wp_ret4, wp_ret5, wp_return, wp_min, wp_max, wp_abs, am_ex, gset_eq, gset_ne, upd_eq, upd_ne, gset_gset, am_ci_1, am_ci_6, am_toList_some, am_toList_none, true_implies, false_implies, and_self, and_true, true_and, not_true_eq_false, not_false_eq_true, imp_self, implies_true, Classical.not_not, if_true, if_false, false_and, and_false, or_false, false_or, true_or, or_true, Nat.reduceAdd, Nat.reduceMul, Nat.reduceSub, Nat.reduceLT, Nat.reduceLeDiff, Nat.reduceEqDiff, Nat.reduceBneDiff, Nat.add_zero, Nat.zero_add, reduceCtorEq, wil0, wal0, wis0, wic0, wil1, wal1, wis1, wic1, wil2, wll2, wal2, wis2, was2, wls2, wic2, wil3, wis3, wic3, wic3m, wic3s, wil4, wis4, wic4, wil5, wis5, wic5, wic5m, wil6, wll6, wal6, wis6, was6, wls6, wic6, wil7, wal7, wis7, was7, wic7, wil8, wis8, wic8, wil9, wis9, wic9, wil10, wis10, wic10, am_nI_inj, am_nI_lt, am_nI_le, nI_add, pk_mul, am_nI_sub, am_add_m1, am_gfs, am_pfs, am_alds, am_asts, am_lens, tgf0, tgf1, tgf2, tgf3, tgf4, tgf5, tgf6, tgf7, tgf8, tgf9, tgf10, tgf11, tgf12, tpf7, tpf8, tpf9, tal0, tas0, tln0, tal1, tas1, tln1, tal2, tas2, tln2, tal3, tas3, tln3, tal4, tas4, tln4, tal5, tas5, tln5, tal6, tas6, tln6, tal7, tas7, tln7, tal8, tas8, tln8, tal9, tas9, tln9, bk48_47, am_B48_8, am_B48_47, bn48_8, hc0, f1, hq1]
        exact ih
      · have hq1 : (nI p = eP (chN T n i)) = False := by rw [hq]; exact eq_false h1
        by_cases h2 : dv ≤ getN T n i
        · have hr : regP T n i p = false := by unfold regP; rw [hdv]; simp; omega
          have ih := ih (p + 1) (by omega) (by rw [hnx, hr])
          simp (config := { maxSteps := 1000000 }) (disch := first | exact am_nl_i | exact am_nl_r | exact am_nl_n | exact am_l0 | exact am_l1 | exact am_l2 | exact am_l3 | assumption | omega) only [wp_ldc, wp_sipush, wp_ldc_w, wp_lconst, wp_iadd, wp_isub, wp_imul, wp_iand, wp_ior, wp_ixor, wp_ishl, wp_ishr, wp_iushr, wp_idiv, wp_irem, wp_ineg, wp_i2b, wp_i2s, wp_i2c, wp_i2l, wp_ladd, wp_lmul, wp_lcmp, wp_dup_i, wp_dup_r, wp_dup2, wp_pop, wp_getfield, wp_putfield, wp_getstatic, wp_iaload, wp_baload, wp_aaload, wp_iastore, wp_arraylength, wp_goto, wp_fall, wp_ieq, wp_ine, wp_ilt, wp_ige, wp_igt, wp_ile, wp_ceq, wp_cne, wp_clt, wp_cge, wp_cgt, wp_cle, wp_sw, wp_ret0, wp_ret1z, wp_ret1o, wp_ret1, wp_ret2, wp_ret3, wp_ret4, wp_ret5, wp_return, wp_min, wp_max, wp_abs, am_ex, gset_eq, gset_ne, upd_eq, upd_ne, gset_gset, am_ci_1, am_ci_6, am_toList_some, am_toList_none, true_implies, false_implies, and_self, and_true, true_and, not_true_eq_false, not_false_eq_true, imp_self, implies_true, Classical.not_not, if_true, if_false, false_and, and_false, or_false, false_or, true_or, or_true, Nat.reduceAdd, Nat.reduceMul, Nat.reduceSub, Nat.reduceLT, Nat.reduceLeDiff, Nat.reduceEqDiff, Nat.reduceBneDiff, Nat.add_zero, Nat.zero_add, reduceCtorEq, wil0, wal0, wis0, wic0, wil1, wal1, wis1, wic1, wil2, wll2, wal2, wis2, was2, wls2, wic2, wil3, wis3, wic3, wic3m, wic3s, wil4, wis4, wic4, wil5, wis5, wic5, wic5m, wil6, wll6, wal6, wis6, was6, wls6, wic6, wil7, wal7, wis7, was7, wic7, wil8, wis8, wic8, wil9, wis9, wic9, wil10, wis10, wic10, am_nI_inj, am_nI_lt, am_nI_le, nI_add, pk_mul, am_nI_sub, am_add_m1, am_gfs, am_pfs, am_alds, am_asts, am_lens, tgf0, tgf1, tgf2, tgf3, tgf4, tgf5, tgf6, tgf7, tgf8, tgf9, tgf10, tgf11, tgf12, tpf7, tpf8, tpf9, tal0, tas0, tln0, tal1, tas1, tln1, tal2, tas2, tln2, tal3, tas3, tln3, tal4, tas4, tln4, tal5, tas5, tln5, tal6, tas6, tln6, tal7, tas7, tln7, tal8, tas8, tln8, tal9, tas9, tln9, bk48_47, am_B48_8, am_B48_47, bn48_8, hc0, f1, f2, f3, hq1, hsh, h2]
          exact ih
        · have hr : regP T n i p = true := by unfold regP; rw [hdv]; simp; omega
          have e : bI (regN T n i) = nI 1 := by
            unfold regN
            have := exB_tail hr d
            rw [show p + 1 + d = 8 by omega] at this
            rw [this]; rfl
          rw [e]
          simp (config := { maxSteps := 1000000 }) (disch := first | exact am_nl_i | exact am_nl_r | exact am_nl_n | exact am_l0 | exact am_l1 | exact am_l2 | exact am_l3 | assumption | omega) only [wp_ldc, wp_sipush, wp_ldc_w, wp_lconst, wp_iadd, wp_isub, wp_imul, wp_iand, wp_ior, wp_ixor, wp_ishl, wp_ishr, wp_iushr, wp_idiv, wp_irem, wp_ineg, wp_i2b, wp_i2s, wp_i2c, wp_i2l, wp_ladd, wp_lmul, wp_lcmp, wp_dup_i, wp_dup_r, wp_dup2, wp_pop, wp_getfield, wp_putfield, wp_getstatic, wp_iaload, wp_baload, wp_aaload, wp_iastore, wp_arraylength, wp_goto, wp_fall, wp_ieq, wp_ine, wp_ilt, wp_ige, wp_igt, wp_ile, wp_ceq, wp_cne, wp_clt, wp_cge, wp_cgt, wp_cle, wp_sw, wp_ret0, wp_ret1z, wp_ret1o, wp_ret1, wp_ret2, wp_ret3, wp_ret4, wp_ret5, wp_return, wp_min, wp_max, wp_abs, am_ex, gset_eq, gset_ne, upd_eq, upd_ne, gset_gset, am_ci_1, am_ci_6, am_toList_some, am_toList_none, true_implies, false_implies, and_self, and_true, true_and, not_true_eq_false, not_false_eq_true, imp_self, implies_true, Classical.not_not, if_true, if_false, false_and, and_false, or_false, false_or, true_or, or_true, Nat.reduceAdd, Nat.reduceMul, Nat.reduceSub, Nat.reduceLT, Nat.reduceLeDiff, Nat.reduceEqDiff, Nat.reduceBneDiff, Nat.add_zero, Nat.zero_add, reduceCtorEq, wil0, wal0, wis0, wic0, wil1, wal1, wis1, wic1, wil2, wll2, wal2, wis2, was2, wls2, wic2, wil3, wis3, wic3, wic3m, wic3s, wil4, wis4, wic4, wil5, wis5, wic5, wic5m, wil6, wll6, wal6, wis6, was6, wls6, wic6, wil7, wal7, wis7, was7, wic7, wil8, wis8, wic8, wil9, wis9, wic9, wil10, wis10, wic10, am_nI_inj, am_nI_lt, am_nI_le, nI_add, pk_mul, am_nI_sub, am_add_m1, am_gfs, am_pfs, am_alds, am_asts, am_lens, tgf0, tgf1, tgf2, tgf3, tgf4, tgf5, tgf6, tgf7, tgf8, tgf9, tgf10, tgf11, tgf12, tpf7, tpf8, tpf9, tal0, tas0, tln0, tal1, tas1, tln1, tal2, tas2, tln2, tal3, tas3, tln3, tal4, tas4, tln4, tal5, tas5, tln5, tal6, tas6, tln6, tal7, tas7, tln7, tal8, tas8, tln8, tal9, tas9, tln9, bk48_47, am_B48_8, am_B48_47, bn48_8, hc0, f1, f2, f3, hq1, hsh, h2]
  have hG := fun (st : List Value) (r : List Instr) (lv : LV) (Q : Option Value → GG → Prop) (hl : st.length ≤ 4) => C_X3_getsNow (X := X) (k := 48) (st := st) (r := r) (lv := lv) (Q := Q) hb hE hV hS hi hl
  simp (config := { maxSteps := 1000000 }) (disch := first | exact am_nl_i | exact am_nl_r | exact am_nl_n | exact am_l0 | exact am_l1 | exact am_l2 | exact am_l3 | assumption | omega) only [wp_ldc, wp_sipush, wp_ldc_w, wp_lconst, wp_iadd, wp_isub, wp_imul, wp_iand, wp_ior, wp_ixor, wp_ishl, wp_ishr, wp_iushr, wp_idiv, wp_irem, wp_ineg, wp_i2b, wp_i2s, wp_i2c, wp_i2l, wp_ladd, wp_lmul, wp_lcmp, wp_dup_i, wp_dup_r, wp_dup2, wp_pop, wp_getfield, wp_putfield, wp_getstatic, wp_iaload, wp_baload, wp_aaload, wp_iastore, wp_arraylength, wp_goto, wp_fall, wp_ieq, wp_ine, wp_ilt, wp_ige, wp_igt, wp_ile, wp_ceq, wp_cne, wp_clt, wp_cge, wp_cgt, wp_cle, wp_sw, wp_ret0, wp_ret1z, wp_ret1o, wp_ret1, wp_ret2, wp_ret3, wp_ret4, wp_ret5, wp_return, wp_min, wp_max, wp_abs, am_ex, gset_eq, gset_ne, upd_eq, upd_ne, gset_gset, am_ci_1, am_ci_6, am_toList_some, am_toList_none, true_implies, false_implies, and_self, and_true, true_and, not_true_eq_false, not_false_eq_true, imp_self, implies_true, Classical.not_not, if_true, if_false, false_and, and_false, or_false, false_or, true_or, or_true, Nat.reduceAdd, Nat.reduceMul, Nat.reduceSub, Nat.reduceLT, Nat.reduceLeDiff, Nat.reduceEqDiff, Nat.reduceBneDiff, Nat.add_zero, Nat.zero_add, reduceCtorEq, wil0, wal0, wis0, wic0, wil1, wal1, wis1, wic1, wil2, wll2, wal2, wis2, was2, wls2, wic2, wil3, wis3, wic3, wic3m, wic3s, wil4, wis4, wic4, wil5, wis5, wic5, wic5m, wil6, wll6, wal6, wis6, was6, wls6, wic6, wil7, wal7, wis7, was7, wic7, wil8, wis8, wic8, wil9, wis9, wic9, wil10, wis10, wic10, am_nI_inj, am_nI_lt, am_nI_le, nI_add, pk_mul, am_nI_sub, am_add_m1, am_gfs, am_pfs, am_alds, am_asts, am_lens, tgf0, tgf1, tgf2, tgf3, tgf4, tgf5, tgf6, tgf7, tgf8, tgf9, tgf10, tgf11, tgf12, tpf7, tpf8, tpf9, tal0, tas0, tln0, tal1, tas1, tln1, tal2, tas2, tln2, tal3, tas3, tln3, tal4, tas4, tln4, tal5, tas5, tln5, tal6, tas6, tln6, tal7, tas7, tln7, tal8, tas8, tln8, tal9, tas9, tln9, bk48_0, am_B48_0, bn48_8, hG]
  exact key 8 0 (by omega) rfl
theorem C_X3_regretsNow {X : AmX} {G : GG} {k : Nat} {r : List Instr} {lv : LV} {st : List Value} {Q : Option Value → GG → Prop} {b n i : Nat} {T : TT} {t : Nat} {z : Int32} (hb : TB b) (hE : TE G b n T t z) (hV : TV n T) (hS : SE G b n T) (hi : i < n) (hl : st.length ≤ 4) : WP X k (.invokeinterface 48 2 :: r) lv ((.int (nI i)) :: (.ref b) :: st) G Q ↔ WP X k r lv ((.int (bI (regN T n i))) :: st) (G) Q := WP_ev (E_X3_regretsNow b n i T t z hb hE hV hS hi) (by decide) rfl rfl hl (am_rcv_of rfl (tcls hb))
theorem E_X3_regretters {X : AmX} {G : GG} (b n : Nat) (T : TT) (t : Nat) (z : Int32) (hb : TB b) (hE : TE G b n T t z) (hV : TV n T) (hS : SE G b n T) : Ev X 71 [.ref b] G (some (.int (nI (setN (regN T n) n)))) (G) := by
  have hb5 : b < 500 := hb.lt
  refine Ev_of ?_
  show WP X 71 (am_blk 71 0) [some (.ref b), none, none] [] G _
  obtain ⟨v1, v2, v3, v4⟩ := id hV
  have a0 := hE.1
  have key : ∀ d i : Nat, i + d = n → WP X 71 (am_blk 71 4) [some (.ref b), some (.int (nI (setN (regN T n) i))), some (.int (nI i))] [] G (fun v H => v = some (.int (nI (setN (regN T n) n))) ∧ H = G) := by
    intro d
    induction d with
    | zero =>
      intro i hi
      obtain rfl : i = n := by omega
      rw [bh71_4]
      simp (config := { maxSteps := 1000000 }) (disch := first | exact am_nl_i | exact am_nl_r | exact am_nl_n | exact am_l0 | exact am_l1 | exact am_l2 | exact am_l3 | assumption | omega) only [wp_ldc, wp_sipush, wp_ldc_w, wp_lconst, wp_iadd, wp_isub, wp_imul, wp_iand, wp_ior, wp_ixor, wp_ishl, wp_ishr, wp_iushr, wp_idiv, wp_irem, wp_ineg, wp_i2b, wp_i2s, wp_i2c, wp_i2l, wp_ladd, wp_lmul, wp_lcmp, wp_dup_i, wp_dup_r, wp_dup2, wp_pop, wp_getfield, wp_putfield, wp_getstatic, wp_iaload, wp_baload, wp_aaload, wp_iastore, wp_arraylength, wp_goto, wp_fall, wp_ieq, wp_ine, wp_ilt, wp_ige, wp_igt, wp_ile, wp_ceq, wp_cne, wp_clt, wp_cge, wp_cgt, wp_cle, wp_sw, wp_ret0, wp_ret1z, wp_ret1o, wp_ret1, wp_ret2, wp_ret3, wp_ret4, wp_ret5, wp_return, wp_min, wp_max, wp_abs, am_ex, gset_eq, gset_ne, upd_eq, upd_ne, gset_gset, am_ci_1, am_ci_6, am_toList_some, am_toList_none, true_implies, false_implies, and_self, and_true, true_and, not_true_eq_false, not_false_eq_true, imp_self, implies_true, Classical.not_not, if_true, if_false, false_and, and_false, or_false, false_or, true_or, or_true, Nat.reduceAdd, Nat.reduceMul, Nat.reduceSub, Nat.reduceLT, Nat.reduceLeDiff, Nat.reduceEqDiff, Nat.reduceBneDiff, Nat.add_zero, Nat.zero_add, reduceCtorEq, wil0, wal0, wis0, wic0, wil1, wal1, wis1, wic1, wil2, wll2, wal2, wis2, was2, wls2, wic2, wil3, wis3, wic3, wic3m, wic3s, wil4, wis4, wic4, wil5, wis5, wic5, wic5m, wil6, wll6, wal6, wis6, was6, wls6, wic6, wil7, wal7, wis7, was7, wic7, wil8, wis8, wic8, wil9, wis9, wic9, wil10, wis10, wic10, am_nI_inj, am_nI_lt, am_nI_le, nI_add, pk_mul, am_nI_sub, am_add_m1, am_gfs, am_pfs, am_alds, am_asts, am_lens, tgf0, tgf1, tgf2, tgf3, tgf4, tgf5, tgf6, tgf7, tgf8, tgf9, tgf10, tgf11, tgf12, tpf7, tpf8, tpf9, tal0, tas0, tln0, tal1, tas1, tln1, tal2, tas2, tln2, tal3, tas3, tln3, tal4, tas4, tln4, tal5, tas5, tln5, tal6, tas6, tln6, tal7, tas7, tln7, tal8, tas8, tln8, tal9, tas9, tln9, bk71_36, am_B71_4, am_B71_36, a0, Nat.le_refl]
    | succ d ih =>
      intro i hi
      have hin : i < n := by omega
      have hc0 : (n ≤ i) = False := eq_false (by omega)
      have hG := fun (st : List Value) (r : List Instr) (lv : LV) (Q : Option Value → GG → Prop) (hl : st.length ≤ 4) => C_X3_regretsNow (X := X) (k := 71) (st := st) (r := r) (lv := lv) (Q := Q) hb hE hV hS hin hl
      have ih := ih (i + 1) (by omega)
      rw [← setN_or (f := regN T n) (i := i) (by omega)] at ih
      rw [bh71_4]
      generalize regN T n i = rr at hG ih
      cases rr
      · rw [if_neg (by decide)] at ih
        simp (config := { maxSteps := 1000000 }) (disch := first | exact am_nl_i | exact am_nl_r | exact am_nl_n | exact am_l0 | exact am_l1 | exact am_l2 | exact am_l3 | assumption | omega) only [wp_ldc, wp_sipush, wp_ldc_w, wp_lconst, wp_iadd, wp_isub, wp_imul, wp_iand, wp_ior, wp_ixor, wp_ishl, wp_ishr, wp_iushr, wp_idiv, wp_irem, wp_ineg, wp_i2b, wp_i2s, wp_i2c, wp_i2l, wp_ladd, wp_lmul, wp_lcmp, wp_dup_i, wp_dup_r, wp_dup2, wp_pop, wp_getfield, wp_putfield, wp_getstatic, wp_iaload, wp_baload, wp_aaload, wp_iastore, wp_arraylength, wp_goto, wp_fall, wp_ieq, wp_ine, wp_ilt, wp_ige, wp_igt, wp_ile, wp_ceq, wp_cne, wp_clt, wp_cge, wp_cgt, wp_cle, wp_sw, wp_ret0, wp_ret1z, wp_ret1o, wp_ret1, wp_ret2, wp_ret3, wp_ret4, wp_ret5, wp_return, wp_min, wp_max, wp_abs, am_ex, gset_eq, gset_ne, upd_eq, upd_ne, gset_gset, am_ci_1, am_ci_6, am_toList_some, am_toList_none, true_implies, false_implies, and_self, and_true, true_and, not_true_eq_false, not_false_eq_true, imp_self, implies_true, Classical.not_not, if_true, if_false, false_and, and_false, or_false, false_or, true_or, or_true, Nat.reduceAdd, Nat.reduceMul, Nat.reduceSub, Nat.reduceLT, Nat.reduceLeDiff, Nat.reduceEqDiff, Nat.reduceBneDiff, Nat.add_zero, Nat.zero_add, reduceCtorEq, wil0, wal0, wis0, wic0, wil1, wal1, wis1, wic1, wil2, wll2, wal2, wis2, was2, wls2, wic2, wil3, wis3, wic3, wic3m, wic3s, wil4, wis4, wic4, wil5, wis5, wic5, wic5m, wil6, wll6, wal6, wis6, was6, wls6, wic6, wil7, wal7, wis7, was7, wic7, wil8, wis8, wic8, wil9, wis9, wic9, wil10, wis10, wic10, am_nI_inj, am_nI_lt, am_nI_le, nI_add, pk_mul, am_nI_sub, am_add_m1, am_gfs, am_pfs, am_alds, am_asts, am_lens, tgf0, tgf1, tgf2, tgf3, tgf4, tgf5, tgf6, tgf7, tgf8, tgf9, tgf10, tgf11, tgf12, tpf7, tpf8, tpf9, tal0, tas0, tln0, tal1, tas1, tln1, tal2, tas2, tln2, tal3, tas3, tln3, tal4, tas4, tln4, tal5, tas5, tln5, tal6, tas6, tln6, tal7, tas7, tln7, tal8, tas8, tln8, tal9, tas9, tln9, bk71_27, bk71_28, am_B71_4, am_B71_27, am_B71_28, bn71_4, a0, hc0, hG, bI_f]
        exact ih
      · rw [if_pos rfl] at ih
        have e2 : (nI 1 = nI 0) = False := eq_false (by decide)
        simp (config := { maxSteps := 1000000 }) (disch := first | exact am_nl_i | exact am_nl_r | exact am_nl_n | exact am_l0 | exact am_l1 | exact am_l2 | exact am_l3 | assumption | omega) only [wp_ldc, wp_sipush, wp_ldc_w, wp_lconst, wp_iadd, wp_isub, wp_imul, wp_iand, wp_ior, wp_ixor, wp_ishl, wp_ishr, wp_iushr, wp_idiv, wp_irem, wp_ineg, wp_i2b, wp_i2s, wp_i2c, wp_i2l, wp_ladd, wp_lmul, wp_lcmp, wp_dup_i, wp_dup_r, wp_dup2, wp_pop, wp_getfield, wp_putfield, wp_getstatic, wp_iaload, wp_baload, wp_aaload, wp_iastore, wp_arraylength, wp_goto, wp_fall, wp_ieq, wp_ine, wp_ilt, wp_ige, wp_igt, wp_ile, wp_ceq, wp_cne, wp_clt, wp_cge, wp_cgt, wp_cle, wp_sw, wp_ret0, wp_ret1z, wp_ret1o, wp_ret1, wp_ret2, wp_ret3, wp_ret4, wp_ret5, wp_return, wp_min, wp_max, wp_abs, am_ex, gset_eq, gset_ne, upd_eq, upd_ne, gset_gset, am_ci_1, am_ci_6, am_toList_some, am_toList_none, true_implies, false_implies, and_self, and_true, true_and, not_true_eq_false, not_false_eq_true, imp_self, implies_true, Classical.not_not, if_true, if_false, false_and, and_false, or_false, false_or, true_or, or_true, Nat.reduceAdd, Nat.reduceMul, Nat.reduceSub, Nat.reduceLT, Nat.reduceLeDiff, Nat.reduceEqDiff, Nat.reduceBneDiff, Nat.add_zero, Nat.zero_add, reduceCtorEq, wil0, wal0, wis0, wic0, wil1, wal1, wis1, wic1, wil2, wll2, wal2, wis2, was2, wls2, wic2, wil3, wis3, wic3, wic3m, wic3s, wil4, wis4, wic4, wil5, wis5, wic5, wic5m, wil6, wll6, wal6, wis6, was6, wls6, wic6, wil7, wal7, wis7, was7, wic7, wil8, wis8, wic8, wil9, wis9, wic9, wil10, wis10, wic10, am_nI_inj, am_nI_lt, am_nI_le, nI_add, pk_mul, am_nI_sub, am_add_m1, am_gfs, am_pfs, am_alds, am_asts, am_lens, tgf0, tgf1, tgf2, tgf3, tgf4, tgf5, tgf6, tgf7, tgf8, tgf9, tgf10, tgf11, tgf12, tpf7, tpf8, tpf9, tal0, tas0, tln0, tal1, tas1, tln1, tal2, tas2, tln2, tal3, tas3, tln3, tal4, tas4, tln4, tal5, tas5, tln5, tal6, tas6, tln6, tal7, tas7, tln7, tal8, tas8, tln8, tal9, tas9, tln9, bk71_27, bk71_28, am_B71_4, am_B71_27, am_B71_28, bn71_4, a0, hc0, hG, bI_t, e2]
        exact ih
  simp (config := { maxSteps := 1000000 }) (disch := first | exact am_nl_i | exact am_nl_r | exact am_nl_n | exact am_l0 | exact am_l1 | exact am_l2 | exact am_l3 | assumption | omega) only [wp_ldc, wp_sipush, wp_ldc_w, wp_lconst, wp_iadd, wp_isub, wp_imul, wp_iand, wp_ior, wp_ixor, wp_ishl, wp_ishr, wp_iushr, wp_idiv, wp_irem, wp_ineg, wp_i2b, wp_i2s, wp_i2c, wp_i2l, wp_ladd, wp_lmul, wp_lcmp, wp_dup_i, wp_dup_r, wp_dup2, wp_pop, wp_getfield, wp_putfield, wp_getstatic, wp_iaload, wp_baload, wp_aaload, wp_iastore, wp_arraylength, wp_goto, wp_fall, wp_ieq, wp_ine, wp_ilt, wp_ige, wp_igt, wp_ile, wp_ceq, wp_cne, wp_clt, wp_cge, wp_cgt, wp_cle, wp_sw, wp_ret0, wp_ret1z, wp_ret1o, wp_ret1, wp_ret2, wp_ret3, wp_ret4, wp_ret5, wp_return, wp_min, wp_max, wp_abs, am_ex, gset_eq, gset_ne, upd_eq, upd_ne, gset_gset, am_ci_1, am_ci_6, am_toList_some, am_toList_none, true_implies, false_implies, and_self, and_true, true_and, not_true_eq_false, not_false_eq_true, imp_self, implies_true, Classical.not_not, if_true, if_false, false_and, and_false, or_false, false_or, true_or, or_true, Nat.reduceAdd, Nat.reduceMul, Nat.reduceSub, Nat.reduceLT, Nat.reduceLeDiff, Nat.reduceEqDiff, Nat.reduceBneDiff, Nat.add_zero, Nat.zero_add, reduceCtorEq, wil0, wal0, wis0, wic0, wil1, wal1, wis1, wic1, wil2, wll2, wal2, wis2, was2, wls2, wic2, wil3, wis3, wic3, wic3m, wic3s, wil4, wis4, wic4, wil5, wis5, wic5, wic5m, wil6, wll6, wal6, wis6, was6, wls6, wic6, wil7, wal7, wis7, was7, wic7, wil8, wis8, wic8, wil9, wis9, wic9, wil10, wis10, wic10, am_nI_inj, am_nI_lt, am_nI_le, nI_add, pk_mul, am_nI_sub, am_add_m1, am_gfs, am_pfs, am_alds, am_asts, am_lens, tgf0, tgf1, tgf2, tgf3, tgf4, tgf5, tgf6, tgf7, tgf8, tgf9, tgf10, tgf11, tgf12, tpf7, tpf8, tpf9, tal0, tas0, tln0, tal1, tas1, tln1, tal2, tas2, tln2, tal3, tas3, tln3, tal4, tas4, tln4, tal5, tas5, tln5, tal6, tas6, tln6, tal7, tas7, tln7, tal8, tas8, tln8, tal9, tas9, tln9, bk71_0, am_B71_0, bn71_4]
  exact key n 0 (by omega)
theorem C_X3_regretters {X : AmX} {G : GG} {k : Nat} {r : List Instr} {lv : LV} {st : List Value} {Q : Option Value → GG → Prop} {b n : Nat} {T : TT} {t : Nat} {z : Int32} (hb : TB b) (hE : TE G b n T t z) (hV : TV n T) (hS : SE G b n T) (hl : st.length ≤ 4) : WP X k (.invokeinterface 71 1 :: r) lv ((.ref b) :: st) G Q ↔ WP X k r lv ((.int (nI (setN (regN T n) n))) :: st) (G) Q := WP_ev (E_X3_regretters b n T t z hb hE hV hS) (by decide) rfl rfl hl (am_rcv_of rfl (tcls hb))
theorem E_X3_movers {X : AmX} {G : GG} (b n : Nat) (T : TT) (t : Nat) (z : Int32) (hb : TB b) (hE : TE G b n T t z) (hV : TV n T) (hS : SE G b n T) : Ev X 73 [.ref b] G (some (.int (nI (setN (fun i => decide (¬ chN T n i = T 2 i)) n)))) (G) := by
  have hb5 : b < 500 := hb.lt
  refine Ev_of ?_
  show WP X 73 (am_blk 73 0) [some (.ref b), none, none] [] G _
  obtain ⟨v1, v2, v3, v4⟩ := id hV
  obtain ⟨a0, a1, a2, a3, a4, a5, a6, a7, a8, a9⟩ := id hE
  obtain ⟨s1, s2, s3⟩ := id hS
  have key : ∀ d i : Nat, i + d = n → WP X 73 (am_blk 73 4) [some (.ref b), some (.int (nI (setN (fun i => decide (¬ chN T n i = T 2 i)) i))), some (.int (nI i))] [] G (fun v H => v = some (.int (nI (setN (fun i => decide (¬ chN T n i = T 2 i)) n))) ∧ H = G) := by
    intro d
    induction d with
    | zero =>
      intro i hi
      obtain rfl : i = n := by omega
      rw [bh73_4]
      simp (config := { maxSteps := 1000000 }) (disch := first | exact am_nl_i | exact am_nl_r | exact am_nl_n | exact am_l0 | exact am_l1 | exact am_l2 | exact am_l3 | assumption | omega) only [wp_ldc, wp_sipush, wp_ldc_w, wp_lconst, wp_iadd, wp_isub, wp_imul, wp_iand, wp_ior, wp_ixor, wp_ishl, wp_ishr, wp_iushr, wp_idiv, wp_irem, wp_ineg, wp_i2b, wp_i2s, wp_i2c, wp_i2l, wp_ladd, wp_lmul, wp_lcmp, wp_dup_i, wp_dup_r, wp_dup2, wp_pop, wp_getfield, wp_putfield, wp_getstatic, wp_iaload, wp_baload, wp_aaload, wp_iastore, wp_arraylength, wp_goto, wp_fall, wp_ieq, wp_ine, wp_ilt, wp_ige, wp_igt, wp_ile, wp_ceq, wp_cne, wp_clt, wp_cge, wp_cgt, wp_cle, wp_sw, wp_ret0, wp_ret1z, wp_ret1o, wp_ret1, wp_ret2, wp_ret3, wp_ret4, wp_ret5, wp_return, wp_min, wp_max, wp_abs, am_ex, gset_eq, gset_ne, upd_eq, upd_ne, gset_gset, am_ci_1, am_ci_6, am_toList_some, am_toList_none, true_implies, false_implies, and_self, and_true, true_and, not_true_eq_false, not_false_eq_true, imp_self, implies_true, Classical.not_not, if_true, if_false, false_and, and_false, or_false, false_or, true_or, or_true, Nat.reduceAdd, Nat.reduceMul, Nat.reduceSub, Nat.reduceLT, Nat.reduceLeDiff, Nat.reduceEqDiff, Nat.reduceBneDiff, Nat.add_zero, Nat.zero_add, reduceCtorEq, wil0, wal0, wis0, wic0, wil1, wal1, wis1, wic1, wil2, wll2, wal2, wis2, was2, wls2, wic2, wil3, wis3, wic3, wic3m, wic3s, wil4, wis4, wic4, wil5, wis5, wic5, wic5m, wil6, wll6, wal6, wis6, was6, wls6, wic6, wil7, wal7, wis7, was7, wic7, wil8, wis8, wic8, wil9, wis9, wic9, wil10, wis10, wic10, am_nI_inj, am_nI_lt, am_nI_le, nI_add, pk_mul, am_nI_sub, am_add_m1, am_gfs, am_pfs, am_alds, am_asts, am_lens, tgf0, tgf1, tgf2, tgf3, tgf4, tgf5, tgf6, tgf7, tgf8, tgf9, tgf10, tgf11, tgf12, tpf7, tpf8, tpf9, tal0, tas0, tln0, tal1, tas1, tln1, tal2, tas2, tln2, tal3, tas3, tln3, tal4, tas4, tln4, tal5, tas5, tln5, tal6, tas6, tln6, tal7, tas7, tln7, tal8, tas8, tln8, tal9, tas9, tln9, bk73_43, am_B73_4, am_B73_43, a0, Nat.le_refl]
    | succ d ih =>
      intro i hi
      have hin : i < n := by omega
      have hc0 : (n ≤ i) = False := eq_false (by omega)
      have f1 := s2 i hin
      have f2 := a5 i hin
      have b2 := (v3 i hin).2.1
      have hq := eP_inj (x := chN T n i) (y := T 2 i) (chN_le b2) b2
      have ih := ih (i + 1) (by omega)
      rw [← setN_or (f := fun i => decide (¬ chN T n i = T 2 i)) (i := i) (by omega)] at ih
      rw [bh73_4]
      by_cases h : chN T n i = T 2 i
      · rw [if_neg (by simp [h])] at ih
        have hq1 : (eP (chN T n i) = eP (T 2 i)) = True := by rw [hq]; exact eq_true h
        simp (config := { maxSteps := 1000000 }) (disch := first | exact am_nl_i | exact am_nl_r | exact am_nl_n | exact am_l0 | exact am_l1 | exact am_l2 | exact am_l3 | assumption | omega) only [wp_ldc, wp_sipush, wp_ldc_w, wp_lconst, wp_iadd, wp_isub, wp_imul, wp_iand, wp_ior, wp_ixor, wp_ishl, wp_ishr, wp_iushr, wp_idiv, wp_irem, wp_ineg, wp_i2b, wp_i2s, wp_i2c, wp_i2l, wp_ladd, wp_lmul, wp_lcmp, wp_dup_i, wp_dup_r, wp_dup2, wp_pop, wp_getfield, wp_putfield, wp_getstatic, wp_iaload, wp_baload, wp_aaload, wp_iastore, wp_arraylength, wp_goto, wp_fall, wp_ieq, wp_ine, wp_ilt, wp_ige, wp_igt, wp_ile, wp_ceq, wp_cne, wp_clt, wp_cge, wp_cgt, wp_cle, wp_sw, wp_ret0, wp_ret1z, wp_ret1o, wp_ret1, wp_ret2, wp_ret3, wp_ret4, wp_ret5, wp_return, wp_min, wp_max, wp_abs, am_ex, gset_eq, gset_ne, upd_eq, upd_ne, gset_gset, am_ci_1, am_ci_6, am_toList_some, am_toList_none, true_implies, false_implies, and_self, and_true, true_and, not_true_eq_false, not_false_eq_true, imp_self, implies_true, Classical.not_not, if_true, if_false, false_and, and_false, or_false, false_or, true_or, or_true, Nat.reduceAdd, Nat.reduceMul, Nat.reduceSub, Nat.reduceLT, Nat.reduceLeDiff, Nat.reduceEqDiff, Nat.reduceBneDiff, Nat.add_zero, Nat.zero_add, reduceCtorEq, wil0, wal0, wis0, wic0, wil1, wal1, wis1, wic1, wil2, wll2, wal2, wis2, was2, wls2, wic2, wil3, wis3, wic3, wic3m, wic3s, wil4, wis4, wic4, wil5, wis5, wic5, wic5m, wil6, wll6, wal6, wis6, was6, wls6, wic6, wil7, wal7, wis7, was7, wic7, wil8, wis8, wic8, wil9, wis9, wic9, wil10, wis10, wic10, am_nI_inj, am_nI_lt, am_nI_le, nI_add, pk_mul, am_nI_sub, am_add_m1, am_gfs, am_pfs, am_alds, am_asts, am_lens, tgf0, tgf1, tgf2, tgf3, tgf4, tgf5, tgf6, tgf7, tgf8, tgf9, tgf10, tgf11, tgf12, tpf7, tpf8, tpf9, tal0, tas0, tln0, tal1, tas1, tln1, tal2, tas2, tln2, tal3, tas3, tln3, tal4, tas4, tln4, tal5, tas5, tln5, tal6, tas6, tln6, tal7, tas7, tln7, tal8, tas8, tln8, tal9, tas9, tln9, bk73_34, bk73_35, am_B73_4, am_B73_34, am_B73_35, bn73_4, a0, hc0, f1, f2, hq1]
        exact ih
      · rw [if_pos (by simp [h])] at ih
        have hq1 : (eP (chN T n i) = eP (T 2 i)) = False := by rw [hq]; exact eq_false h
        simp (config := { maxSteps := 1000000 }) (disch := first | exact am_nl_i | exact am_nl_r | exact am_nl_n | exact am_l0 | exact am_l1 | exact am_l2 | exact am_l3 | assumption | omega) only [wp_ldc, wp_sipush, wp_ldc_w, wp_lconst, wp_iadd, wp_isub, wp_imul, wp_iand, wp_ior, wp_ixor, wp_ishl, wp_ishr, wp_iushr, wp_idiv, wp_irem, wp_ineg, wp_i2b, wp_i2s, wp_i2c, wp_i2l, wp_ladd, wp_lmul, wp_lcmp, wp_dup_i, wp_dup_r, wp_dup2, wp_pop, wp_getfield, wp_putfield, wp_getstatic, wp_iaload, wp_baload, wp_aaload, wp_iastore, wp_arraylength, wp_goto, wp_fall, wp_ieq, wp_ine, wp_ilt, wp_ige, wp_igt, wp_ile, wp_ceq, wp_cne, wp_clt, wp_cge, wp_cgt, wp_cle, wp_sw, wp_ret0, wp_ret1z, wp_ret1o, wp_ret1, wp_ret2, wp_ret3, wp_ret4, wp_ret5, wp_return, wp_min, wp_max, wp_abs, am_ex, gset_eq, gset_ne, upd_eq, upd_ne, gset_gset, am_ci_1, am_ci_6, am_toList_some, am_toList_none, true_implies, false_implies, and_self, and_true, true_and, not_true_eq_false, not_false_eq_true, imp_self, implies_true, Classical.not_not, if_true, if_false, false_and, and_false, or_false, false_or, true_or, or_true, Nat.reduceAdd, Nat.reduceMul, Nat.reduceSub, Nat.reduceLT, Nat.reduceLeDiff, Nat.reduceEqDiff, Nat.reduceBneDiff, Nat.add_zero, Nat.zero_add, reduceCtorEq, wil0, wal0, wis0, wic0, wil1, wal1, wis1, wic1, wil2, wll2, wal2, wis2, was2, wls2, wic2, wil3, wis3, wic3, wic3m, wic3s, wil4, wis4, wic4, wil5, wis5, wic5, wic5m, wil6, wll6, wal6, wis6, was6, wls6, wic6, wil7, wal7, wis7, was7, wic7, wil8, wis8, wic8, wil9, wis9, wic9, wil10, wis10, wic10, am_nI_inj, am_nI_lt, am_nI_le, nI_add, pk_mul, am_nI_sub, am_add_m1, am_gfs, am_pfs, am_alds, am_asts, am_lens, tgf0, tgf1, tgf2, tgf3, tgf4, tgf5, tgf6, tgf7, tgf8, tgf9, tgf10, tgf11, tgf12, tpf7, tpf8, tpf9, tal0, tas0, tln0, tal1, tas1, tln1, tal2, tas2, tln2, tal3, tas3, tln3, tal4, tas4, tln4, tal5, tas5, tln5, tal6, tas6, tln6, tal7, tas7, tln7, tal8, tas8, tln8, tal9, tas9, tln9, bk73_34, bk73_35, am_B73_4, am_B73_34, am_B73_35, bn73_4, a0, hc0, f1, f2, hq1]
        exact ih
  simp (config := { maxSteps := 1000000 }) (disch := first | exact am_nl_i | exact am_nl_r | exact am_nl_n | exact am_l0 | exact am_l1 | exact am_l2 | exact am_l3 | assumption | omega) only [wp_ldc, wp_sipush, wp_ldc_w, wp_lconst, wp_iadd, wp_isub, wp_imul, wp_iand, wp_ior, wp_ixor, wp_ishl, wp_ishr, wp_iushr, wp_idiv, wp_irem, wp_ineg, wp_i2b, wp_i2s, wp_i2c, wp_i2l, wp_ladd, wp_lmul, wp_lcmp, wp_dup_i, wp_dup_r, wp_dup2, wp_pop, wp_getfield, wp_putfield, wp_getstatic, wp_iaload, wp_baload, wp_aaload, wp_iastore, wp_arraylength, wp_goto, wp_fall, wp_ieq, wp_ine, wp_ilt, wp_ige, wp_igt, wp_ile, wp_ceq, wp_cne, wp_clt, wp_cge, wp_cgt, wp_cle, wp_sw, wp_ret0, wp_ret1z, wp_ret1o, wp_ret1, wp_ret2, wp_ret3, wp_ret4, wp_ret5, wp_return, wp_min, wp_max, wp_abs, am_ex, gset_eq, gset_ne, upd_eq, upd_ne, gset_gset, am_ci_1, am_ci_6, am_toList_some, am_toList_none, true_implies, false_implies, and_self, and_true, true_and, not_true_eq_false, not_false_eq_true, imp_self, implies_true, Classical.not_not, if_true, if_false, false_and, and_false, or_false, false_or, true_or, or_true, Nat.reduceAdd, Nat.reduceMul, Nat.reduceSub, Nat.reduceLT, Nat.reduceLeDiff, Nat.reduceEqDiff, Nat.reduceBneDiff, Nat.add_zero, Nat.zero_add, reduceCtorEq, wil0, wal0, wis0, wic0, wil1, wal1, wis1, wic1, wil2, wll2, wal2, wis2, was2, wls2, wic2, wil3, wis3, wic3, wic3m, wic3s, wil4, wis4, wic4, wil5, wis5, wic5, wic5m, wil6, wll6, wal6, wis6, was6, wls6, wic6, wil7, wal7, wis7, was7, wic7, wil8, wis8, wic8, wil9, wis9, wic9, wil10, wis10, wic10, am_nI_inj, am_nI_lt, am_nI_le, nI_add, pk_mul, am_nI_sub, am_add_m1, am_gfs, am_pfs, am_alds, am_asts, am_lens, tgf0, tgf1, tgf2, tgf3, tgf4, tgf5, tgf6, tgf7, tgf8, tgf9, tgf10, tgf11, tgf12, tpf7, tpf8, tpf9, tal0, tas0, tln0, tal1, tas1, tln1, tal2, tas2, tln2, tal3, tas3, tln3, tal4, tas4, tln4, tal5, tas5, tln5, tal6, tas6, tln6, tal7, tas7, tln7, tal8, tas8, tln8, tal9, tas9, tln9, bk73_0, am_B73_0, bn73_4]
  exact key n 0 (by omega)
theorem C_X3_movers {X : AmX} {G : GG} {k : Nat} {r : List Instr} {lv : LV} {st : List Value} {Q : Option Value → GG → Prop} {b n : Nat} {T : TT} {t : Nat} {z : Int32} (hb : TB b) (hE : TE G b n T t z) (hV : TV n T) (hS : SE G b n T) (hl : st.length ≤ 4) : WP X k (.invokeinterface 73 1 :: r) lv ((.ref b) :: st) G Q ↔ WP X k r lv ((.int (nI (setN (fun i => decide (¬ chN T n i = T 2 i)) n))) :: st) (G) Q := WP_ev (E_X3_movers b n T t z hb hE hV hS) (by decide) rfl rfl hl (am_rcv_of rfl (tcls hb))
theorem E_X3_plannersOf {X : AmX} {G : GG} (b n p : Nat) (T : TT) (t : Nat) (z : Int32) (hb : TB b) (hE : TE G b n T t z) (hV : TV n T) (hp : p < 8) : Ev X 23 [.ref b, .int (nI p)] G (some (.int (nI (setN (fun i => decide (T 2 i = p)) n)))) (G) := by
  have hb5 : b < 500 := hb.lt
  refine Ev_of ?_
  show WP X 23 (am_blk 23 0) [some (.ref b), some (.int (nI p)), none, none] [] G _
  obtain ⟨v1, v2, v3, v4⟩ := id hV
  obtain ⟨a0, a1, a2, a3, a4, a5, a6, a7, a8, a9⟩ := id hE
  have key : ∀ d i : Nat, i + d = n → WP X 23 (am_blk 23 4) [some (.ref b), some (.int (nI p)), some (.int (nI (setN (fun i => decide (T 2 i = p)) i))), some (.int (nI i))] [] G (fun v H => v = some (.int (nI (setN (fun i => decide (T 2 i = p)) n))) ∧ H = G) := by
    intro d
    induction d with
    | zero =>
      intro i hi
      obtain rfl : i = n := by omega
      rw [bh23_4]
      simp (config := { maxSteps := 1000000 }) (disch := first | exact am_nl_i | exact am_nl_r | exact am_nl_n | exact am_l0 | exact am_l1 | exact am_l2 | exact am_l3 | assumption | omega) only [wp_ldc, wp_sipush, wp_ldc_w, wp_lconst, wp_iadd, wp_isub, wp_imul, wp_iand, wp_ior, wp_ixor, wp_ishl, wp_ishr, wp_iushr, wp_idiv, wp_irem, wp_ineg, wp_i2b, wp_i2s, wp_i2c, wp_i2l, wp_ladd, wp_lmul, wp_lcmp, wp_dup_i, wp_dup_r, wp_dup2, wp_pop, wp_getfield, wp_putfield, wp_getstatic, wp_iaload, wp_baload, wp_aaload, wp_iastore, wp_arraylength, wp_goto, wp_fall, wp_ieq, wp_ine, wp_ilt, wp_ige, wp_igt, wp_ile, wp_ceq, wp_cne, wp_clt, wp_cge, wp_cgt, wp_cle, wp_sw, wp_ret0, wp_ret1z, wp_ret1o, wp_ret1, wp_ret2, wp_ret3, wp_ret4, wp_ret5, wp_return, wp_min, wp_max, wp_abs, am_ex, gset_eq, gset_ne, upd_eq, upd_ne, gset_gset, am_ci_1, am_ci_6, am_toList_some, am_toList_none, true_implies, false_implies, and_self, and_true, true_and, not_true_eq_false, not_false_eq_true, imp_self, implies_true, Classical.not_not, if_true, if_false, false_and, and_false, or_false, false_or, true_or, or_true, Nat.reduceAdd, Nat.reduceMul, Nat.reduceSub, Nat.reduceLT, Nat.reduceLeDiff, Nat.reduceEqDiff, Nat.reduceBneDiff, Nat.add_zero, Nat.zero_add, reduceCtorEq, wil0, wal0, wis0, wic0, wil1, wal1, wis1, wic1, wil2, wll2, wal2, wis2, was2, wls2, wic2, wil3, wis3, wic3, wic3m, wic3s, wil4, wis4, wic4, wil5, wis5, wic5, wic5m, wil6, wll6, wal6, wis6, was6, wls6, wic6, wil7, wal7, wis7, was7, wic7, wil8, wis8, wic8, wil9, wis9, wic9, wil10, wis10, wic10, am_nI_inj, am_nI_lt, am_nI_le, nI_add, pk_mul, am_nI_sub, am_add_m1, am_gfs, am_pfs, am_alds, am_asts, am_lens, tgf0, tgf1, tgf2, tgf3, tgf4, tgf5, tgf6, tgf7, tgf8, tgf9, tgf10, tgf11, tgf12, tpf7, tpf8, tpf9, tal0, tas0, tln0, tal1, tas1, tln1, tal2, tas2, tln2, tal3, tas3, tln3, tal4, tas4, tln4, tal5, tas5, tln5, tal6, tas6, tln6, tal7, tas7, tln7, tal8, tas8, tln8, tal9, tas9, tln9, bk23_38, am_B23_4, am_B23_38, a0, Nat.le_refl]
    | succ d ih =>
      intro i hi
      have hin : i < n := by omega
      have hc0 : (n ≤ i) = False := eq_false (by omega)
      have f2 := a5 i hin
      have hq := eP_eq (x := T 2 i) (p := p) (v3 i hin).2.1 hp
      have ih := ih (i + 1) (by omega)
      rw [← setN_or (f := fun i => decide (T 2 i = p)) (i := i) (by omega)] at ih
      rw [bh23_4]
      by_cases h : T 2 i = p
      · rw [if_pos (by simp [h])] at ih
        have hq1 : (eP (T 2 i) = nI p) = True := by rw [hq]; exact eq_true h
        simp (config := { maxSteps := 1000000 }) (disch := first | exact am_nl_i | exact am_nl_r | exact am_nl_n | exact am_l0 | exact am_l1 | exact am_l2 | exact am_l3 | assumption | omega) only [wp_ldc, wp_sipush, wp_ldc_w, wp_lconst, wp_iadd, wp_isub, wp_imul, wp_iand, wp_ior, wp_ixor, wp_ishl, wp_ishr, wp_iushr, wp_idiv, wp_irem, wp_ineg, wp_i2b, wp_i2s, wp_i2c, wp_i2l, wp_ladd, wp_lmul, wp_lcmp, wp_dup_i, wp_dup_r, wp_dup2, wp_pop, wp_getfield, wp_putfield, wp_getstatic, wp_iaload, wp_baload, wp_aaload, wp_iastore, wp_arraylength, wp_goto, wp_fall, wp_ieq, wp_ine, wp_ilt, wp_ige, wp_igt, wp_ile, wp_ceq, wp_cne, wp_clt, wp_cge, wp_cgt, wp_cle, wp_sw, wp_ret0, wp_ret1z, wp_ret1o, wp_ret1, wp_ret2, wp_ret3, wp_ret4, wp_ret5, wp_return, wp_min, wp_max, wp_abs, am_ex, gset_eq, gset_ne, upd_eq, upd_ne, gset_gset, am_ci_1, am_ci_6, am_toList_some, am_toList_none, true_implies, false_implies, and_self, and_true, true_and, not_true_eq_false, not_false_eq_true, imp_self, implies_true, Classical.not_not, if_true, if_false, false_and, and_false, or_false, false_or, true_or, or_true, Nat.reduceAdd, Nat.reduceMul, Nat.reduceSub, Nat.reduceLT, Nat.reduceLeDiff, Nat.reduceEqDiff, Nat.reduceBneDiff, Nat.add_zero, Nat.zero_add, reduceCtorEq, wil0, wal0, wis0, wic0, wil1, wal1, wis1, wic1, wil2, wll2, wal2, wis2, was2, wls2, wic2, wil3, wis3, wic3, wic3m, wic3s, wil4, wis4, wic4, wil5, wis5, wic5, wic5m, wil6, wll6, wal6, wis6, was6, wls6, wic6, wil7, wal7, wis7, was7, wic7, wil8, wis8, wic8, wil9, wis9, wic9, wil10, wis10, wic10, am_nI_inj, am_nI_lt, am_nI_le, nI_add, pk_mul, am_nI_sub, am_add_m1, am_gfs, am_pfs, am_alds, am_asts, am_lens, tgf0, tgf1, tgf2, tgf3, tgf4, tgf5, tgf6, tgf7, tgf8, tgf9, tgf10, tgf11, tgf12, tpf7, tpf8, tpf9, tal0, tas0, tln0, tal1, tas1, tln1, tal2, tas2, tln2, tal3, tas3, tln3, tal4, tas4, tln4, tal5, tas5, tln5, tal6, tas6, tln6, tal7, tas7, tln7, tal8, tas8, tln8, tal9, tas9, tln9, bk23_29, bk23_30, am_B23_4, am_B23_29, am_B23_30, bn23_4, a0, hc0, f2, hq1]
        exact ih
      · rw [if_neg (by simp [h])] at ih
        have hq1 : (eP (T 2 i) = nI p) = False := by rw [hq]; exact eq_false h
        simp (config := { maxSteps := 1000000 }) (disch := first | exact am_nl_i | exact am_nl_r | exact am_nl_n | exact am_l0 | exact am_l1 | exact am_l2 | exact am_l3 | assumption | omega) only [wp_ldc, wp_sipush, wp_ldc_w, wp_lconst, wp_iadd, wp_isub, wp_imul, wp_iand, wp_ior, wp_ixor, wp_ishl, wp_ishr, wp_iushr, wp_idiv, wp_irem, wp_ineg, wp_i2b, wp_i2s, wp_i2c, wp_i2l, wp_ladd, wp_lmul, wp_lcmp, wp_dup_i, wp_dup_r, wp_dup2, wp_pop, wp_getfield, wp_putfield, wp_getstatic, wp_iaload, wp_baload, wp_aaload, wp_iastore, wp_arraylength, wp_goto, wp_fall, wp_ieq, wp_ine, wp_ilt, wp_ige, wp_igt, wp_ile, wp_ceq, wp_cne, wp_clt, wp_cge, wp_cgt, wp_cle, wp_sw, wp_ret0, wp_ret1z, wp_ret1o, wp_ret1, wp_ret2, wp_ret3, wp_ret4, wp_ret5, wp_return, wp_min, wp_max, wp_abs, am_ex, gset_eq, gset_ne, upd_eq, upd_ne, gset_gset, am_ci_1, am_ci_6, am_toList_some, am_toList_none, true_implies, false_implies, and_self, and_true, true_and, not_true_eq_false, not_false_eq_true, imp_self, implies_true, Classical.not_not, if_true, if_false, false_and, and_false, or_false, false_or, true_or, or_true, Nat.reduceAdd, Nat.reduceMul, Nat.reduceSub, Nat.reduceLT, Nat.reduceLeDiff, Nat.reduceEqDiff, Nat.reduceBneDiff, Nat.add_zero, Nat.zero_add, reduceCtorEq, wil0, wal0, wis0, wic0, wil1, wal1, wis1, wic1, wil2, wll2, wal2, wis2, was2, wls2, wic2, wil3, wis3, wic3, wic3m, wic3s, wil4, wis4, wic4, wil5, wis5, wic5, wic5m, wil6, wll6, wal6, wis6, was6, wls6, wic6, wil7, wal7, wis7, was7, wic7, wil8, wis8, wic8, wil9, wis9, wic9, wil10, wis10, wic10, am_nI_inj, am_nI_lt, am_nI_le, nI_add, pk_mul, am_nI_sub, am_add_m1, am_gfs, am_pfs, am_alds, am_asts, am_lens, tgf0, tgf1, tgf2, tgf3, tgf4, tgf5, tgf6, tgf7, tgf8, tgf9, tgf10, tgf11, tgf12, tpf7, tpf8, tpf9, tal0, tas0, tln0, tal1, tas1, tln1, tal2, tas2, tln2, tal3, tas3, tln3, tal4, tas4, tln4, tal5, tas5, tln5, tal6, tas6, tln6, tal7, tas7, tln7, tal8, tas8, tln8, tal9, tas9, tln9, bk23_29, bk23_30, am_B23_4, am_B23_29, am_B23_30, bn23_4, a0, hc0, f2, hq1]
        exact ih
  simp (config := { maxSteps := 1000000 }) (disch := first | exact am_nl_i | exact am_nl_r | exact am_nl_n | exact am_l0 | exact am_l1 | exact am_l2 | exact am_l3 | assumption | omega) only [wp_ldc, wp_sipush, wp_ldc_w, wp_lconst, wp_iadd, wp_isub, wp_imul, wp_iand, wp_ior, wp_ixor, wp_ishl, wp_ishr, wp_iushr, wp_idiv, wp_irem, wp_ineg, wp_i2b, wp_i2s, wp_i2c, wp_i2l, wp_ladd, wp_lmul, wp_lcmp, wp_dup_i, wp_dup_r, wp_dup2, wp_pop, wp_getfield, wp_putfield, wp_getstatic, wp_iaload, wp_baload, wp_aaload, wp_iastore, wp_arraylength, wp_goto, wp_fall, wp_ieq, wp_ine, wp_ilt, wp_ige, wp_igt, wp_ile, wp_ceq, wp_cne, wp_clt, wp_cge, wp_cgt, wp_cle, wp_sw, wp_ret0, wp_ret1z, wp_ret1o, wp_ret1, wp_ret2, wp_ret3, wp_ret4, wp_ret5, wp_return, wp_min, wp_max, wp_abs, am_ex, gset_eq, gset_ne, upd_eq, upd_ne, gset_gset, am_ci_1, am_ci_6, am_toList_some, am_toList_none, true_implies, false_implies, and_self, and_true, true_and, not_true_eq_false, not_false_eq_true, imp_self, implies_true, Classical.not_not, if_true, if_false, false_and, and_false, or_false, false_or, true_or, or_true, Nat.reduceAdd, Nat.reduceMul, Nat.reduceSub, Nat.reduceLT, Nat.reduceLeDiff, Nat.reduceEqDiff, Nat.reduceBneDiff, Nat.add_zero, Nat.zero_add, reduceCtorEq, wil0, wal0, wis0, wic0, wil1, wal1, wis1, wic1, wil2, wll2, wal2, wis2, was2, wls2, wic2, wil3, wis3, wic3, wic3m, wic3s, wil4, wis4, wic4, wil5, wis5, wic5, wic5m, wil6, wll6, wal6, wis6, was6, wls6, wic6, wil7, wal7, wis7, was7, wic7, wil8, wis8, wic8, wil9, wis9, wic9, wil10, wis10, wic10, am_nI_inj, am_nI_lt, am_nI_le, nI_add, pk_mul, am_nI_sub, am_add_m1, am_gfs, am_pfs, am_alds, am_asts, am_lens, tgf0, tgf1, tgf2, tgf3, tgf4, tgf5, tgf6, tgf7, tgf8, tgf9, tgf10, tgf11, tgf12, tpf7, tpf8, tpf9, tal0, tas0, tln0, tal1, tas1, tln1, tal2, tas2, tln2, tal3, tas3, tln3, tal4, tas4, tln4, tal5, tas5, tln5, tal6, tas6, tln6, tal7, tas7, tln7, tal8, tas8, tln8, tal9, tas9, tln9, bk23_0, am_B23_0, bn23_4]
  exact key n 0 (by omega)
theorem C_X3_plannersOf {X : AmX} {G : GG} {k : Nat} {r : List Instr} {lv : LV} {st : List Value} {Q : Option Value → GG → Prop} {b n p : Nat} {T : TT} {t : Nat} {z : Int32} (hb : TB b) (hE : TE G b n T t z) (hV : TV n T) (hp : p < 8) (hl : st.length ≤ 4) : WP X k (.invokeinterface 23 2 :: r) lv ((.int (nI p)) :: (.ref b) :: st) G Q ↔ WP X k r lv ((.int (nI (setN (fun i => decide (T 2 i = p)) n))) :: st) (G) Q := WP_ev (E_X3_plannersOf b n p T t z hb hE hV hp) (by decide) rfl rfl hl (am_rcv_of rfl (tcls hb))
theorem E_X3_choosersOf {X : AmX} {G : GG} (b n p : Nat) (T : TT) (t : Nat) (z : Int32) (hb : TB b) (hE : TE G b n T t z) (hV : TV n T) (hS : SE G b n T) (hp : p < 8) : Ev X 24 [.ref b, .int (nI p)] G (some (.int (nI (setN (fun i => decide (chN T n i = p)) n)))) (G) := by
  have hb5 : b < 500 := hb.lt
  refine Ev_of ?_
  show WP X 24 (am_blk 24 0) [some (.ref b), some (.int (nI p)), none, none] [] G _
  obtain ⟨v1, v2, v3, v4⟩ := id hV
  obtain ⟨a0, a1, a2, a3, a4, a5, a6, a7, a8, a9⟩ := id hE
  obtain ⟨s1, s2, s3⟩ := id hS
  have key : ∀ d i : Nat, i + d = n → WP X 24 (am_blk 24 4) [some (.ref b), some (.int (nI p)), some (.int (nI (setN (fun i => decide (chN T n i = p)) i))), some (.int (nI i))] [] G (fun v H => v = some (.int (nI (setN (fun i => decide (chN T n i = p)) n))) ∧ H = G) := by
    intro d
    induction d with
    | zero =>
      intro i hi
      obtain rfl : i = n := by omega
      rw [bh24_4]
      simp (config := { maxSteps := 1000000 }) (disch := first | exact am_nl_i | exact am_nl_r | exact am_nl_n | exact am_l0 | exact am_l1 | exact am_l2 | exact am_l3 | assumption | omega) only [wp_ldc, wp_sipush, wp_ldc_w, wp_lconst, wp_iadd, wp_isub, wp_imul, wp_iand, wp_ior, wp_ixor, wp_ishl, wp_ishr, wp_iushr, wp_idiv, wp_irem, wp_ineg, wp_i2b, wp_i2s, wp_i2c, wp_i2l, wp_ladd, wp_lmul, wp_lcmp, wp_dup_i, wp_dup_r, wp_dup2, wp_pop, wp_getfield, wp_putfield, wp_getstatic, wp_iaload, wp_baload, wp_aaload, wp_iastore, wp_arraylength, wp_goto, wp_fall, wp_ieq, wp_ine, wp_ilt, wp_ige, wp_igt, wp_ile, wp_ceq, wp_cne, wp_clt, wp_cge, wp_cgt, wp_cle, wp_sw, wp_ret0, wp_ret1z, wp_ret1o, wp_ret1, wp_ret2, wp_ret3, wp_ret4, wp_ret5, wp_return, wp_min, wp_max, wp_abs, am_ex, gset_eq, gset_ne, upd_eq, upd_ne, gset_gset, am_ci_1, am_ci_6, am_toList_some, am_toList_none, true_implies, false_implies, and_self, and_true, true_and, not_true_eq_false, not_false_eq_true, imp_self, implies_true, Classical.not_not, if_true, if_false, false_and, and_false, or_false, false_or, true_or, or_true, Nat.reduceAdd, Nat.reduceMul, Nat.reduceSub, Nat.reduceLT, Nat.reduceLeDiff, Nat.reduceEqDiff, Nat.reduceBneDiff, Nat.add_zero, Nat.zero_add, reduceCtorEq, wil0, wal0, wis0, wic0, wil1, wal1, wis1, wic1, wil2, wll2, wal2, wis2, was2, wls2, wic2, wil3, wis3, wic3, wic3m, wic3s, wil4, wis4, wic4, wil5, wis5, wic5, wic5m, wil6, wll6, wal6, wis6, was6, wls6, wic6, wil7, wal7, wis7, was7, wic7, wil8, wis8, wic8, wil9, wis9, wic9, wil10, wis10, wic10, am_nI_inj, am_nI_lt, am_nI_le, nI_add, pk_mul, am_nI_sub, am_add_m1, am_gfs, am_pfs, am_alds, am_asts, am_lens, tgf0, tgf1, tgf2, tgf3, tgf4, tgf5, tgf6, tgf7, tgf8, tgf9, tgf10, tgf11, tgf12, tpf7, tpf8, tpf9, tal0, tas0, tln0, tal1, tas1, tln1, tal2, tas2, tln2, tal3, tas3, tln3, tal4, tas4, tln4, tal5, tas5, tln5, tal6, tas6, tln6, tal7, tas7, tln7, tal8, tas8, tln8, tal9, tas9, tln9, bk24_38, am_B24_4, am_B24_38, a0, Nat.le_refl]
    | succ d ih =>
      intro i hi
      have hin : i < n := by omega
      have hc0 : (n ≤ i) = False := eq_false (by omega)
      have f2 := s2 i hin
      have hq := eP_eq (x := chN T n i) (p := p) (chN_le (v3 i hin).2.1) hp
      have ih := ih (i + 1) (by omega)
      rw [← setN_or (f := fun i => decide (chN T n i = p)) (i := i) (by omega)] at ih
      rw [bh24_4]
      by_cases h : chN T n i = p
      · rw [if_pos (by simp [h])] at ih
        have hq1 : (eP (chN T n i) = nI p) = True := by rw [hq]; exact eq_true h
        simp (config := { maxSteps := 1000000 }) (disch := first | exact am_nl_i | exact am_nl_r | exact am_nl_n | exact am_l0 | exact am_l1 | exact am_l2 | exact am_l3 | assumption | omega) only [wp_ldc, wp_sipush, wp_ldc_w, wp_lconst, wp_iadd, wp_isub, wp_imul, wp_iand, wp_ior, wp_ixor, wp_ishl, wp_ishr, wp_iushr, wp_idiv, wp_irem, wp_ineg, wp_i2b, wp_i2s, wp_i2c, wp_i2l, wp_ladd, wp_lmul, wp_lcmp, wp_dup_i, wp_dup_r, wp_dup2, wp_pop, wp_getfield, wp_putfield, wp_getstatic, wp_iaload, wp_baload, wp_aaload, wp_iastore, wp_arraylength, wp_goto, wp_fall, wp_ieq, wp_ine, wp_ilt, wp_ige, wp_igt, wp_ile, wp_ceq, wp_cne, wp_clt, wp_cge, wp_cgt, wp_cle, wp_sw, wp_ret0, wp_ret1z, wp_ret1o, wp_ret1, wp_ret2, wp_ret3, wp_ret4, wp_ret5, wp_return, wp_min, wp_max, wp_abs, am_ex, gset_eq, gset_ne, upd_eq, upd_ne, gset_gset, am_ci_1, am_ci_6, am_toList_some, am_toList_none, true_implies, false_implies, and_self, and_true, true_and, not_true_eq_false, not_false_eq_true, imp_self, implies_true, Classical.not_not, if_true, if_false, false_and, and_false, or_false, false_or, true_or, or_true, Nat.reduceAdd, Nat.reduceMul, Nat.reduceSub, Nat.reduceLT, Nat.reduceLeDiff, Nat.reduceEqDiff, Nat.reduceBneDiff, Nat.add_zero, Nat.zero_add, reduceCtorEq, wil0, wal0, wis0, wic0, wil1, wal1, wis1, wic1, wil2, wll2, wal2, wis2, was2, wls2, wic2, wil3, wis3, wic3, wic3m, wic3s, wil4, wis4, wic4, wil5, wis5, wic5, wic5m, wil6, wll6, wal6, wis6, was6, wls6, wic6, wil7, wal7, wis7, was7, wic7, wil8, wis8, wic8, wil9, wis9, wic9, wil10, wis10, wic10, am_nI_inj, am_nI_lt, am_nI_le, nI_add, pk_mul, am_nI_sub, am_add_m1, am_gfs, am_pfs, am_alds, am_asts, am_lens, tgf0, tgf1, tgf2, tgf3, tgf4, tgf5, tgf6, tgf7, tgf8, tgf9, tgf10, tgf11, tgf12, tpf7, tpf8, tpf9, tal0, tas0, tln0, tal1, tas1, tln1, tal2, tas2, tln2, tal3, tas3, tln3, tal4, tas4, tln4, tal5, tas5, tln5, tal6, tas6, tln6, tal7, tas7, tln7, tal8, tas8, tln8, tal9, tas9, tln9, bk24_29, bk24_30, am_B24_4, am_B24_29, am_B24_30, bn24_4, a0, hc0, f2, hq1]
        exact ih
      · rw [if_neg (by simp [h])] at ih
        have hq1 : (eP (chN T n i) = nI p) = False := by rw [hq]; exact eq_false h
        simp (config := { maxSteps := 1000000 }) (disch := first | exact am_nl_i | exact am_nl_r | exact am_nl_n | exact am_l0 | exact am_l1 | exact am_l2 | exact am_l3 | assumption | omega) only [wp_ldc, wp_sipush, wp_ldc_w, wp_lconst, wp_iadd, wp_isub, wp_imul, wp_iand, wp_ior, wp_ixor, wp_ishl, wp_ishr, wp_iushr, wp_idiv, wp_irem, wp_ineg, wp_i2b, wp_i2s, wp_i2c, wp_i2l, wp_ladd, wp_lmul, wp_lcmp, wp_dup_i, wp_dup_r, wp_dup2, wp_pop, wp_getfield, wp_putfield, wp_getstatic, wp_iaload, wp_baload, wp_aaload, wp_iastore, wp_arraylength, wp_goto, wp_fall, wp_ieq, wp_ine, wp_ilt, wp_ige, wp_igt, wp_ile, wp_ceq, wp_cne, wp_clt, wp_cge, wp_cgt, wp_cle, wp_sw, wp_ret0, wp_ret1z, wp_ret1o, wp_ret1, wp_ret2, wp_ret3, wp_ret4, wp_ret5, wp_return, wp_min, wp_max, wp_abs, am_ex, gset_eq, gset_ne, upd_eq, upd_ne, gset_gset, am_ci_1, am_ci_6, am_toList_some, am_toList_none, true_implies, false_implies, and_self, and_true, true_and, not_true_eq_false, not_false_eq_true, imp_self, implies_true, Classical.not_not, if_true, if_false, false_and, and_false, or_false, false_or, true_or, or_true, Nat.reduceAdd, Nat.reduceMul, Nat.reduceSub, Nat.reduceLT, Nat.reduceLeDiff, Nat.reduceEqDiff, Nat.reduceBneDiff, Nat.add_zero, Nat.zero_add, reduceCtorEq, wil0, wal0, wis0, wic0, wil1, wal1, wis1, wic1, wil2, wll2, wal2, wis2, was2, wls2, wic2, wil3, wis3, wic3, wic3m, wic3s, wil4, wis4, wic4, wil5, wis5, wic5, wic5m, wil6, wll6, wal6, wis6, was6, wls6, wic6, wil7, wal7, wis7, was7, wic7, wil8, wis8, wic8, wil9, wis9, wic9, wil10, wis10, wic10, am_nI_inj, am_nI_lt, am_nI_le, nI_add, pk_mul, am_nI_sub, am_add_m1, am_gfs, am_pfs, am_alds, am_asts, am_lens, tgf0, tgf1, tgf2, tgf3, tgf4, tgf5, tgf6, tgf7, tgf8, tgf9, tgf10, tgf11, tgf12, tpf7, tpf8, tpf9, tal0, tas0, tln0, tal1, tas1, tln1, tal2, tas2, tln2, tal3, tas3, tln3, tal4, tas4, tln4, tal5, tas5, tln5, tal6, tas6, tln6, tal7, tas7, tln7, tal8, tas8, tln8, tal9, tas9, tln9, bk24_29, bk24_30, am_B24_4, am_B24_29, am_B24_30, bn24_4, a0, hc0, f2, hq1]
        exact ih
  simp (config := { maxSteps := 1000000 }) (disch := first | exact am_nl_i | exact am_nl_r | exact am_nl_n | exact am_l0 | exact am_l1 | exact am_l2 | exact am_l3 | assumption | omega) only [wp_ldc, wp_sipush, wp_ldc_w, wp_lconst, wp_iadd, wp_isub, wp_imul, wp_iand, wp_ior, wp_ixor, wp_ishl, wp_ishr, wp_iushr, wp_idiv, wp_irem, wp_ineg, wp_i2b, wp_i2s, wp_i2c, wp_i2l, wp_ladd, wp_lmul, wp_lcmp, wp_dup_i, wp_dup_r, wp_dup2, wp_pop, wp_getfield, wp_putfield, wp_getstatic, wp_iaload, wp_baload, wp_aaload, wp_iastore, wp_arraylength, wp_goto, wp_fall, wp_ieq, wp_ine, wp_ilt, wp_ige, wp_igt, wp_ile, wp_ceq, wp_cne, wp_clt, wp_cge, wp_cgt, wp_cle, wp_sw, wp_ret0, wp_ret1z, wp_ret1o, wp_ret1, wp_ret2, wp_ret3, wp_ret4, wp_ret5, wp_return, wp_min, wp_max, wp_abs, am_ex, gset_eq, gset_ne, upd_eq, upd_ne, gset_gset, am_ci_1, am_ci_6, am_toList_some, am_toList_none, true_implies, false_implies, and_self, and_true, true_and, not_true_eq_false, not_false_eq_true, imp_self, implies_true, Classical.not_not, if_true, if_false, false_and, and_false, or_false, false_or, true_or, or_true, Nat.reduceAdd, Nat.reduceMul, Nat.reduceSub, Nat.reduceLT, Nat.reduceLeDiff, Nat.reduceEqDiff, Nat.reduceBneDiff, Nat.add_zero, Nat.zero_add, reduceCtorEq, wil0, wal0, wis0, wic0, wil1, wal1, wis1, wic1, wil2, wll2, wal2, wis2, was2, wls2, wic2, wil3, wis3, wic3, wic3m, wic3s, wil4, wis4, wic4, wil5, wis5, wic5, wic5m, wil6, wll6, wal6, wis6, was6, wls6, wic6, wil7, wal7, wis7, was7, wic7, wil8, wis8, wic8, wil9, wis9, wic9, wil10, wis10, wic10, am_nI_inj, am_nI_lt, am_nI_le, nI_add, pk_mul, am_nI_sub, am_add_m1, am_gfs, am_pfs, am_alds, am_asts, am_lens, tgf0, tgf1, tgf2, tgf3, tgf4, tgf5, tgf6, tgf7, tgf8, tgf9, tgf10, tgf11, tgf12, tpf7, tpf8, tpf9, tal0, tas0, tln0, tal1, tas1, tln1, tal2, tas2, tln2, tal3, tas3, tln3, tal4, tas4, tln4, tal5, tas5, tln5, tal6, tas6, tln6, tal7, tas7, tln7, tal8, tas8, tln8, tal9, tas9, tln9, bk24_0, am_B24_0, bn24_4]
  exact key n 0 (by omega)
theorem C_X3_choosersOf {X : AmX} {G : GG} {k : Nat} {r : List Instr} {lv : LV} {st : List Value} {Q : Option Value → GG → Prop} {b n p : Nat} {T : TT} {t : Nat} {z : Int32} (hb : TB b) (hE : TE G b n T t z) (hV : TV n T) (hS : SE G b n T) (hp : p < 8) (hl : st.length ≤ 4) : WP X k (.invokeinterface 24 2 :: r) lv ((.int (nI p)) :: (.ref b) :: st) G Q ↔ WP X k r lv ((.int (nI (setN (fun i => decide (chN T n i = p)) n))) :: st) (G) Q := WP_ev (E_X3_choosersOf b n p T t z hb hE hV hS hp) (by decide) rfl rfl hl (am_rcv_of rfl (tcls hb))
theorem E_X3_visitedPlaces {X : AmX} {G : GG} (b n : Nat) (T : TT) (t : Nat) (z : Int32) (hb : TB b) (hE : TE G b n T t z) (hV : TV n T) (hS : SE G b n T) : Ev X 72 [.ref b] G (some (.int (nI (setN (fun p => decide (0 < ccN T n p)) 8)))) (G) := by
  have hb5 : b < 500 := hb.lt
  refine Ev_of ?_
  show WP X 72 (am_blk 72 0) [some (.ref b), none, none] [] G _
  obtain ⟨s1, s2, s3⟩ := id hS
  have v1 := hV.1
  have key : ∀ d i : Nat, i + d = 8 → WP X 72 (am_blk 72 4) [some (.ref b), some (.int (nI (setN (fun p => decide (0 < ccN T n p)) i))), some (.int (nI i))] [] G (fun v H => v = some (.int (nI (setN (fun p => decide (0 < ccN T n p)) 8))) ∧ H = G) := by
    intro d
    induction d with
    | zero =>
      intro i hi
      obtain rfl : i = 8 := by omega
      rw [bh72_4]
      simp (config := { maxSteps := 1000000 }) (disch := first | exact am_nl_i | exact am_nl_r | exact am_nl_n | exact am_l0 | exact am_l1 | exact am_l2 | exact am_l3 | assumption | omega) only [wp_ldc, wp_sipush, wp_ldc_w, wp_lconst, wp_iadd, wp_isub, wp_imul, wp_iand, wp_ior, wp_ixor, wp_ishl, wp_ishr, wp_iushr, wp_idiv, wp_irem, wp_ineg, wp_i2b, wp_i2s, wp_i2c, wp_i2l, wp_ladd, wp_lmul, wp_lcmp, wp_dup_i, wp_dup_r, wp_dup2, wp_pop, wp_getfield, wp_putfield, wp_getstatic, wp_iaload, wp_baload, wp_aaload, wp_iastore, wp_arraylength, wp_goto, wp_fall, wp_ieq, wp_ine, wp_ilt, wp_ige, wp_igt, wp_ile, wp_ceq, wp_cne, wp_clt, wp_cge, wp_cgt, wp_cle, wp_sw, wp_ret0, wp_ret1z, wp_ret1o, wp_ret1, wp_ret2, wp_ret3, wp_ret4, wp_ret5, wp_return, wp_min, wp_max, wp_abs, am_ex, gset_eq, gset_ne, upd_eq, upd_ne, gset_gset, am_ci_1, am_ci_6, am_toList_some, am_toList_none, true_implies, false_implies, and_self, and_true, true_and, not_true_eq_false, not_false_eq_true, imp_self, implies_true, Classical.not_not, if_true, if_false, false_and, and_false, or_false, false_or, true_or, or_true, Nat.reduceAdd, Nat.reduceMul, Nat.reduceSub, Nat.reduceLT, Nat.reduceLeDiff, Nat.reduceEqDiff, Nat.reduceBneDiff, Nat.add_zero, Nat.zero_add, reduceCtorEq, wil0, wal0, wis0, wic0, wil1, wal1, wis1, wic1, wil2, wll2, wal2, wis2, was2, wls2, wic2, wil3, wis3, wic3, wic3m, wic3s, wil4, wis4, wic4, wil5, wis5, wic5, wic5m, wil6, wll6, wal6, wis6, was6, wls6, wic6, wil7, wal7, wis7, was7, wic7, wil8, wis8, wic8, wil9, wis9, wic9, wil10, wis10, wic10, am_nI_inj, am_nI_lt, am_nI_le, nI_add, pk_mul, am_nI_sub, am_add_m1, am_gfs, am_pfs, am_alds, am_asts, am_lens, tgf0, tgf1, tgf2, tgf3, tgf4, tgf5, tgf6, tgf7, tgf8, tgf9, tgf10, tgf11, tgf12, tpf7, tpf8, tpf9, tal0, tas0, tln0, tal1, tas1, tln1, tal2, tas2, tln2, tal3, tas3, tln3, tal4, tas4, tln4, tal5, tas5, tln5, tal6, tas6, tln6, tal7, tas7, tln7, tal8, tas8, tln8, tal9, tas9, tln9, bk72_35, am_B72_4, am_B72_35, Nat.le_refl]
    | succ d ih =>
      intro i hi
      have hin : i < 8 := by omega
      have hc0 : (8 ≤ i) = False := eq_false (by omega)
      have f2 := s3 i hin
      have hcc := ccN_le T n i
      have ih := ih (i + 1) (by omega)
      rw [← setN_or (f := fun p => decide (0 < ccN T n p)) (i := i) (by omega)] at ih
      rw [bh72_4]
      by_cases h : 0 < ccN T n i
      · rw [if_pos (by simp [h])] at ih
        have hq1 : (ccN T n i ≤ 0) = False := eq_false (by omega)
        simp (config := { maxSteps := 1000000 }) (disch := first | exact am_nl_i | exact am_nl_r | exact am_nl_n | exact am_l0 | exact am_l1 | exact am_l2 | exact am_l3 | assumption | omega) only [wp_ldc, wp_sipush, wp_ldc_w, wp_lconst, wp_iadd, wp_isub, wp_imul, wp_iand, wp_ior, wp_ixor, wp_ishl, wp_ishr, wp_iushr, wp_idiv, wp_irem, wp_ineg, wp_i2b, wp_i2s, wp_i2c, wp_i2l, wp_ladd, wp_lmul, wp_lcmp, wp_dup_i, wp_dup_r, wp_dup2, wp_pop, wp_getfield, wp_putfield, wp_getstatic, wp_iaload, wp_baload, wp_aaload, wp_iastore, wp_arraylength, wp_goto, wp_fall, wp_ieq, wp_ine, wp_ilt, wp_ige, wp_igt, wp_ile, wp_ceq, wp_cne, wp_clt, wp_cge, wp_cgt, wp_cle, wp_sw, wp_ret0, wp_ret1z, wp_ret1o, wp_ret1, wp_ret2, wp_ret3, wp_ret4, wp_ret5, wp_return, wp_min, wp_max, wp_abs, am_ex, gset_eq, gset_ne, upd_eq, upd_ne, gset_gset, am_ci_1, am_ci_6, am_toList_some, am_toList_none, true_implies, false_implies, and_self, and_true, true_and, not_true_eq_false, not_false_eq_true, imp_self, implies_true, Classical.not_not, if_true, if_false, false_and, and_false, or_false, false_or, true_or, or_true, Nat.reduceAdd, Nat.reduceMul, Nat.reduceSub, Nat.reduceLT, Nat.reduceLeDiff, Nat.reduceEqDiff, Nat.reduceBneDiff, Nat.add_zero, Nat.zero_add, reduceCtorEq, wil0, wal0, wis0, wic0, wil1, wal1, wis1, wic1, wil2, wll2, wal2, wis2, was2, wls2, wic2, wil3, wis3, wic3, wic3m, wic3s, wil4, wis4, wic4, wil5, wis5, wic5, wic5m, wil6, wll6, wal6, wis6, was6, wls6, wic6, wil7, wal7, wis7, was7, wic7, wil8, wis8, wic8, wil9, wis9, wic9, wil10, wis10, wic10, am_nI_inj, am_nI_lt, am_nI_le, nI_add, pk_mul, am_nI_sub, am_add_m1, am_gfs, am_pfs, am_alds, am_asts, am_lens, tgf0, tgf1, tgf2, tgf3, tgf4, tgf5, tgf6, tgf7, tgf8, tgf9, tgf10, tgf11, tgf12, tpf7, tpf8, tpf9, tal0, tas0, tln0, tal1, tas1, tln1, tal2, tas2, tln2, tal3, tas3, tln3, tal4, tas4, tln4, tal5, tas5, tln5, tal6, tas6, tln6, tal7, tas7, tln7, tal8, tas8, tln8, tal9, tas9, tln9, bk72_26, bk72_27, am_B72_4, am_B72_26, am_B72_27, bn72_4, hc0, f2, hq1]
        exact ih
      · rw [if_neg (by simp [h])] at ih
        have hq1 : (ccN T n i ≤ 0) = True := eq_true (by omega)
        simp (config := { maxSteps := 1000000 }) (disch := first | exact am_nl_i | exact am_nl_r | exact am_nl_n | exact am_l0 | exact am_l1 | exact am_l2 | exact am_l3 | assumption | omega) only [wp_ldc, wp_sipush, wp_ldc_w, wp_lconst, wp_iadd, wp_isub, wp_imul, wp_iand, wp_ior, wp_ixor, wp_ishl, wp_ishr, wp_iushr, wp_idiv, wp_irem, wp_ineg, wp_i2b, wp_i2s, wp_i2c, wp_i2l, wp_ladd, wp_lmul, wp_lcmp, wp_dup_i, wp_dup_r, wp_dup2, wp_pop, wp_getfield, wp_putfield, wp_getstatic, wp_iaload, wp_baload, wp_aaload, wp_iastore, wp_arraylength, wp_goto, wp_fall, wp_ieq, wp_ine, wp_ilt, wp_ige, wp_igt, wp_ile, wp_ceq, wp_cne, wp_clt, wp_cge, wp_cgt, wp_cle, wp_sw, wp_ret0, wp_ret1z, wp_ret1o, wp_ret1, wp_ret2, wp_ret3, wp_ret4, wp_ret5, wp_return, wp_min, wp_max, wp_abs, am_ex, gset_eq, gset_ne, upd_eq, upd_ne, gset_gset, am_ci_1, am_ci_6, am_toList_some, am_toList_none, true_implies, false_implies, and_self, and_true, true_and, not_true_eq_false, not_false_eq_true, imp_self, implies_true, Classical.not_not, if_true, if_false, false_and, and_false, or_false, false_or, true_or, or_true, Nat.reduceAdd, Nat.reduceMul, Nat.reduceSub, Nat.reduceLT, Nat.reduceLeDiff, Nat.reduceEqDiff, Nat.reduceBneDiff, Nat.add_zero, Nat.zero_add, reduceCtorEq, wil0, wal0, wis0, wic0, wil1, wal1, wis1, wic1, wil2, wll2, wal2, wis2, was2, wls2, wic2, wil3, wis3, wic3, wic3m, wic3s, wil4, wis4, wic4, wil5, wis5, wic5, wic5m, wil6, wll6, wal6, wis6, was6, wls6, wic6, wil7, wal7, wis7, was7, wic7, wil8, wis8, wic8, wil9, wis9, wic9, wil10, wis10, wic10, am_nI_inj, am_nI_lt, am_nI_le, nI_add, pk_mul, am_nI_sub, am_add_m1, am_gfs, am_pfs, am_alds, am_asts, am_lens, tgf0, tgf1, tgf2, tgf3, tgf4, tgf5, tgf6, tgf7, tgf8, tgf9, tgf10, tgf11, tgf12, tpf7, tpf8, tpf9, tal0, tas0, tln0, tal1, tas1, tln1, tal2, tas2, tln2, tal3, tas3, tln3, tal4, tas4, tln4, tal5, tas5, tln5, tal6, tas6, tln6, tal7, tas7, tln7, tal8, tas8, tln8, tal9, tas9, tln9, bk72_26, bk72_27, am_B72_4, am_B72_26, am_B72_27, bn72_4, hc0, f2, hq1]
        exact ih
  simp (config := { maxSteps := 1000000 }) (disch := first | exact am_nl_i | exact am_nl_r | exact am_nl_n | exact am_l0 | exact am_l1 | exact am_l2 | exact am_l3 | assumption | omega) only [wp_ldc, wp_sipush, wp_ldc_w, wp_lconst, wp_iadd, wp_isub, wp_imul, wp_iand, wp_ior, wp_ixor, wp_ishl, wp_ishr, wp_iushr, wp_idiv, wp_irem, wp_ineg, wp_i2b, wp_i2s, wp_i2c, wp_i2l, wp_ladd, wp_lmul, wp_lcmp, wp_dup_i, wp_dup_r, wp_dup2, wp_pop, wp_getfield, wp_putfield, wp_getstatic, wp_iaload, wp_baload, wp_aaload, wp_iastore, wp_arraylength, wp_goto, wp_fall, wp_ieq, wp_ine, wp_ilt, wp_ige, wp_igt, wp_ile, wp_ceq, wp_cne, wp_clt, wp_cge, wp_cgt, wp_cle, wp_sw, wp_ret0, wp_ret1z, wp_ret1o, wp_ret1, wp_ret2, wp_ret3, wp_ret4, wp_ret5, wp_return, wp_min, wp_max, wp_abs, am_ex, gset_eq, gset_ne, upd_eq, upd_ne, gset_gset, am_ci_1, am_ci_6, am_toList_some, am_toList_none, true_implies, false_implies, and_self, and_true, true_and, not_true_eq_false, not_false_eq_true, imp_self, implies_true, Classical.not_not, if_true, if_false, false_and, and_false, or_false, false_or, true_or, or_true, Nat.reduceAdd, Nat.reduceMul, Nat.reduceSub, Nat.reduceLT, Nat.reduceLeDiff, Nat.reduceEqDiff, Nat.reduceBneDiff, Nat.add_zero, Nat.zero_add, reduceCtorEq, wil0, wal0, wis0, wic0, wil1, wal1, wis1, wic1, wil2, wll2, wal2, wis2, was2, wls2, wic2, wil3, wis3, wic3, wic3m, wic3s, wil4, wis4, wic4, wil5, wis5, wic5, wic5m, wil6, wll6, wal6, wis6, was6, wls6, wic6, wil7, wal7, wis7, was7, wic7, wil8, wis8, wic8, wil9, wis9, wic9, wil10, wis10, wic10, am_nI_inj, am_nI_lt, am_nI_le, nI_add, pk_mul, am_nI_sub, am_add_m1, am_gfs, am_pfs, am_alds, am_asts, am_lens, tgf0, tgf1, tgf2, tgf3, tgf4, tgf5, tgf6, tgf7, tgf8, tgf9, tgf10, tgf11, tgf12, tpf7, tpf8, tpf9, tal0, tas0, tln0, tal1, tas1, tln1, tal2, tas2, tln2, tal3, tas3, tln3, tal4, tas4, tln4, tal5, tas5, tln5, tal6, tas6, tln6, tal7, tas7, tln7, tal8, tas8, tln8, tal9, tas9, tln9, bk72_0, am_B72_0, bn72_4]
  exact key 8 0 (by omega)
theorem C_X3_visitedPlaces {X : AmX} {G : GG} {k : Nat} {r : List Instr} {lv : LV} {st : List Value} {Q : Option Value → GG → Prop} {b n : Nat} {T : TT} {t : Nat} {z : Int32} (hb : TB b) (hE : TE G b n T t z) (hV : TV n T) (hS : SE G b n T) (hl : st.length ≤ 4) : WP X k (.invokeinterface 72 1 :: r) lv ((.ref b) :: st) G Q ↔ WP X k r lv ((.int (nI (setN (fun p => decide (0 < ccN T n p)) 8))) :: st) (G) Q := WP_ev (E_X3_visitedPlaces b n T t z hb hE hV hS) (by decide) rfl rfl hl (am_rcv_of rfl (tcls hb))
theorem E_X3_goodsOfAll {X : AmX} {G : GG} (b n : Nat) (T : TT) (t : Nat) (z : Int32) (hb : TB b) (hE : TE G b n T t z) (hV : TV n T) : Ev X 65 [.ref b] G (some (.int (nI (sumN (T 5) n)))) (G) := by
  have hb5 : b < 500 := hb.lt
  refine Ev_of ?_
  show WP X 65 (am_blk 65 0) [some (.ref b), none, none] [] G _
  have v1 := hV.1
  obtain ⟨a0, a1, a2, a3, a4, a5, a6, a7, a8, a9⟩ := id hE
  have key : ∀ d i : Nat, i + d = n → WP X 65 (am_blk 65 4) [some (.ref b), some (.int (nI (sumN (T 5) i))), some (.int (nI i))] [] G (fun v H => v = some (.int (nI (sumN (T 5) n))) ∧ H = G) := by
    intro d
    induction d with
    | zero =>
      intro i hi
      obtain rfl : i = n := by omega
      rw [bh65_4]
      simp (config := { maxSteps := 1000000 }) (disch := first | exact am_nl_i | exact am_nl_r | exact am_nl_n | exact am_l0 | exact am_l1 | exact am_l2 | exact am_l3 | assumption | omega) only [wp_ldc, wp_sipush, wp_ldc_w, wp_lconst, wp_iadd, wp_isub, wp_imul, wp_iand, wp_ior, wp_ixor, wp_ishl, wp_ishr, wp_iushr, wp_idiv, wp_irem, wp_ineg, wp_i2b, wp_i2s, wp_i2c, wp_i2l, wp_ladd, wp_lmul, wp_lcmp, wp_dup_i, wp_dup_r, wp_dup2, wp_pop, wp_getfield, wp_putfield, wp_getstatic, wp_iaload, wp_baload, wp_aaload, wp_iastore, wp_arraylength, wp_goto, wp_fall, wp_ieq, wp_ine, wp_ilt, wp_ige, wp_igt, wp_ile, wp_ceq, wp_cne, wp_clt, wp_cge, wp_cgt, wp_cle, wp_sw, wp_ret0, wp_ret1z, wp_ret1o, wp_ret1, wp_ret2, wp_ret3, wp_ret4, wp_ret5, wp_return, wp_min, wp_max, wp_abs, am_ex, gset_eq, gset_ne, upd_eq, upd_ne, gset_gset, am_ci_1, am_ci_6, am_toList_some, am_toList_none, true_implies, false_implies, and_self, and_true, true_and, not_true_eq_false, not_false_eq_true, imp_self, implies_true, Classical.not_not, if_true, if_false, false_and, and_false, or_false, false_or, true_or, or_true, Nat.reduceAdd, Nat.reduceMul, Nat.reduceSub, Nat.reduceLT, Nat.reduceLeDiff, Nat.reduceEqDiff, Nat.reduceBneDiff, Nat.add_zero, Nat.zero_add, reduceCtorEq, wil0, wal0, wis0, wic0, wil1, wal1, wis1, wic1, wil2, wll2, wal2, wis2, was2, wls2, wic2, wil3, wis3, wic3, wic3m, wic3s, wil4, wis4, wic4, wil5, wis5, wic5, wic5m, wil6, wll6, wal6, wis6, was6, wls6, wic6, wil7, wal7, wis7, was7, wic7, wil8, wis8, wic8, wil9, wis9, wic9, wil10, wis10, wic10, am_nI_inj, am_nI_lt, am_nI_le, nI_add, pk_mul, am_nI_sub, am_add_m1, am_gfs, am_pfs, am_alds, am_asts, am_lens, tgf0, tgf1, tgf2, tgf3, tgf4, tgf5, tgf6, tgf7, tgf8, tgf9, tgf10, tgf11, tgf12, tpf7, tpf8, tpf9, tal0, tas0, tln0, tal1, tas1, tln1, tal2, tas2, tln2, tal3, tas3, tln3, tal4, tas4, tln4, tal5, tas5, tln5, tal6, tas6, tln6, tal7, tas7, tln7, tal8, tas8, tln8, tal9, tas9, tln9, bk65_27, am_B65_4, am_B65_27, a0, Nat.le_refl]
    | succ d ih =>
      intro i hi
      have hin : i < n := by omega
      have hc0 : (n ≤ i) = False := eq_false (by omega)
      have f2 := a8 i hin
      have ih := ih (i + 1) (by omega)
      rw [bh65_4]
      simp (config := { maxSteps := 1000000 }) (disch := first | exact am_nl_i | exact am_nl_r | exact am_nl_n | exact am_l0 | exact am_l1 | exact am_l2 | exact am_l3 | assumption | omega) only [wp_ldc, wp_sipush, wp_ldc_w, wp_lconst, wp_iadd, wp_isub, wp_imul, wp_iand, wp_ior, wp_ixor, wp_ishl, wp_ishr, wp_iushr, wp_idiv, wp_irem, wp_ineg, wp_i2b, wp_i2s, wp_i2c, wp_i2l, wp_ladd, wp_lmul, wp_lcmp, wp_dup_i, wp_dup_r, wp_dup2, wp_pop, wp_getfield, wp_putfield, wp_getstatic, wp_iaload, wp_baload, wp_aaload, wp_iastore, wp_arraylength, wp_goto, wp_fall, wp_ieq, wp_ine, wp_ilt, wp_ige, wp_igt, wp_ile, wp_ceq, wp_cne, wp_clt, wp_cge, wp_cgt, wp_cle, wp_sw, wp_ret0, wp_ret1z, wp_ret1o, wp_ret1, wp_ret2, wp_ret3, wp_ret4, wp_ret5, wp_return, wp_min, wp_max, wp_abs, am_ex, gset_eq, gset_ne, upd_eq, upd_ne, gset_gset, am_ci_1, am_ci_6, am_toList_some, am_toList_none, true_implies, false_implies, and_self, and_true, true_and, not_true_eq_false, not_false_eq_true, imp_self, implies_true, Classical.not_not, if_true, if_false, false_and, and_false, or_false, false_or, true_or, or_true, Nat.reduceAdd, Nat.reduceMul, Nat.reduceSub, Nat.reduceLT, Nat.reduceLeDiff, Nat.reduceEqDiff, Nat.reduceBneDiff, Nat.add_zero, Nat.zero_add, reduceCtorEq, wil0, wal0, wis0, wic0, wil1, wal1, wis1, wic1, wil2, wll2, wal2, wis2, was2, wls2, wic2, wil3, wis3, wic3, wic3m, wic3s, wil4, wis4, wic4, wil5, wis5, wic5, wic5m, wil6, wll6, wal6, wis6, was6, wls6, wic6, wil7, wal7, wis7, was7, wic7, wil8, wis8, wic8, wil9, wis9, wic9, wil10, wis10, wic10, am_nI_inj, am_nI_lt, am_nI_le, nI_add, pk_mul, am_nI_sub, am_add_m1, am_gfs, am_pfs, am_alds, am_asts, am_lens, tgf0, tgf1, tgf2, tgf3, tgf4, tgf5, tgf6, tgf7, tgf8, tgf9, tgf10, tgf11, tgf12, tpf7, tpf8, tpf9, tal0, tas0, tln0, tal1, tas1, tln1, tal2, tas2, tln2, tal3, tas3, tln3, tal4, tas4, tln4, tal5, tas5, tln5, tal6, tas6, tln6, tal7, tas7, tln7, tal8, tas8, tln8, tal9, tas9, tln9, am_B65_4, bn65_4, a0, hc0, f2]
      exact ih
  simp (config := { maxSteps := 1000000 }) (disch := first | exact am_nl_i | exact am_nl_r | exact am_nl_n | exact am_l0 | exact am_l1 | exact am_l2 | exact am_l3 | assumption | omega) only [wp_ldc, wp_sipush, wp_ldc_w, wp_lconst, wp_iadd, wp_isub, wp_imul, wp_iand, wp_ior, wp_ixor, wp_ishl, wp_ishr, wp_iushr, wp_idiv, wp_irem, wp_ineg, wp_i2b, wp_i2s, wp_i2c, wp_i2l, wp_ladd, wp_lmul, wp_lcmp, wp_dup_i, wp_dup_r, wp_dup2, wp_pop, wp_getfield, wp_putfield, wp_getstatic, wp_iaload, wp_baload, wp_aaload, wp_iastore, wp_arraylength, wp_goto, wp_fall, wp_ieq, wp_ine, wp_ilt, wp_ige, wp_igt, wp_ile, wp_ceq, wp_cne, wp_clt, wp_cge, wp_cgt, wp_cle, wp_sw, wp_ret0, wp_ret1z, wp_ret1o, wp_ret1, wp_ret2, wp_ret3, wp_ret4, wp_ret5, wp_return, wp_min, wp_max, wp_abs, am_ex, gset_eq, gset_ne, upd_eq, upd_ne, gset_gset, am_ci_1, am_ci_6, am_toList_some, am_toList_none, true_implies, false_implies, and_self, and_true, true_and, not_true_eq_false, not_false_eq_true, imp_self, implies_true, Classical.not_not, if_true, if_false, false_and, and_false, or_false, false_or, true_or, or_true, Nat.reduceAdd, Nat.reduceMul, Nat.reduceSub, Nat.reduceLT, Nat.reduceLeDiff, Nat.reduceEqDiff, Nat.reduceBneDiff, Nat.add_zero, Nat.zero_add, reduceCtorEq, wil0, wal0, wis0, wic0, wil1, wal1, wis1, wic1, wil2, wll2, wal2, wis2, was2, wls2, wic2, wil3, wis3, wic3, wic3m, wic3s, wil4, wis4, wic4, wil5, wis5, wic5, wic5m, wil6, wll6, wal6, wis6, was6, wls6, wic6, wil7, wal7, wis7, was7, wic7, wil8, wis8, wic8, wil9, wis9, wic9, wil10, wis10, wic10, am_nI_inj, am_nI_lt, am_nI_le, nI_add, pk_mul, am_nI_sub, am_add_m1, am_gfs, am_pfs, am_alds, am_asts, am_lens, tgf0, tgf1, tgf2, tgf3, tgf4, tgf5, tgf6, tgf7, tgf8, tgf9, tgf10, tgf11, tgf12, tpf7, tpf8, tpf9, tal0, tas0, tln0, tal1, tas1, tln1, tal2, tas2, tln2, tal3, tas3, tln3, tal4, tas4, tln4, tal5, tas5, tln5, tal6, tas6, tln6, tal7, tas7, tln7, tal8, tas8, tln8, tal9, tas9, tln9, bk65_0, am_B65_0, bn65_4]
  exact key n 0 (by omega)
theorem C_X3_goodsOfAll {X : AmX} {G : GG} {k : Nat} {r : List Instr} {lv : LV} {st : List Value} {Q : Option Value → GG → Prop} {b n : Nat} {T : TT} {t : Nat} {z : Int32} (hb : TB b) (hE : TE G b n T t z) (hV : TV n T) (hl : st.length ≤ 4) : WP X k (.invokeinterface 65 1 :: r) lv ((.ref b) :: st) G Q ↔ WP X k r lv ((.int (nI (sumN (T 5) n))) :: st) (G) Q := WP_ev (E_X3_goodsOfAll b n T t z hb hE hV) (by decide) rfl rfl hl (am_rcv_of rfl (tcls hb))
end
