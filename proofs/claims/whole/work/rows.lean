section
-- ===== PART A: goes FIRST, ahead of the names: the tables' words, and 'selects' of the private methods out of them =====
/-- a private method of a class that the tables say can be made, by its rows of tables_1 -/
def lw_okq (q : MethodName × Nat) : Prop := (q.1.cls ≠ "java/lang/invoke/MethodHandle" ∧ q.1.cls ≠ "java/lang/invoke/VarHandle") ∧ Cond.instantiable q.1.cls q.2 ∈ tables_1 ∧ Cond.privateMethod q.1 ∈ tables_1 ∧ Cond.instanceMethod q.1 ∈ tables_1
theorem lw_p0 : lw_okq (⟨"TwoTuesdays", "found", "(I)I"⟩, 7) := ⟨⟨by decide +kernel, by decide +kernel⟩, List.mem_of_getElem? (i := 16) (by decide +kernel), List.mem_of_getElem? (i := 192) (by decide +kernel), List.mem_of_getElem? (i := 193) (by decide +kernel)⟩
theorem lw_p1 : lw_okq (⟨"TwoTuesdays$Town", "bestPlaceFor", "(I)I"⟩, 13) := ⟨⟨by decide +kernel, by decide +kernel⟩, List.mem_of_getElem? (i := 24) (by decide +kernel), List.mem_of_getElem? (i := 205) (by decide +kernel), List.mem_of_getElem? (i := 206) (by decide +kernel)⟩
theorem lw_p2 : lw_okq (⟨"TwoTuesdays", "isThere", "(I)Z"⟩, 7) := ⟨⟨by decide +kernel, by decide +kernel⟩, List.mem_of_getElem? (i := 16) (by decide +kernel), List.mem_of_getElem? (i := 243) (by decide +kernel), List.mem_of_getElem? (i := 244) (by decide +kernel)⟩
theorem lw_p3 : lw_okq (⟨"TwoTuesdays", "richestWith", "(III)I"⟩, 7) := ⟨⟨by decide +kernel, by decide +kernel⟩, List.mem_of_getElem? (i := 16) (by decide +kernel), List.mem_of_getElem? (i := 376) (by decide +kernel), List.mem_of_getElem? (i := 377) (by decide +kernel)⟩
theorem lw_p4 : lw_okq (⟨"TwoTuesdays", "comersIfTold", "(II)I"⟩, 7) := ⟨⟨by decide +kernel, by decide +kernel⟩, List.mem_of_getElem? (i := 16) (by decide +kernel), List.mem_of_getElem? (i := 406) (by decide +kernel), List.mem_of_getElem? (i := 407) (by decide +kernel)⟩
theorem lw_p5 : lw_okq (⟨"TwoTuesdays", "goodsIfSwapped", "(III)I"⟩, 7) := ⟨⟨by decide +kernel, by decide +kernel⟩, List.mem_of_getElem? (i := 16) (by decide +kernel), List.mem_of_getElem? (i := 418) (by decide +kernel), List.mem_of_getElem? (i := 419) (by decide +kernel)⟩
theorem lw_p6 : lw_okq (⟨"TwoTuesdays", "fittingTraits", "(III)I"⟩, 7) := ⟨⟨by decide +kernel, by decide +kernel⟩, List.mem_of_getElem? (i := 16) (by decide +kernel), List.mem_of_getElem? (i := 426) (by decide +kernel), List.mem_of_getElem? (i := 427) (by decide +kernel)⟩
theorem lw_p7 : lw_okq (⟨"TwoTuesdays", "fitsWith", "(LTwoTuesdays$Sheet;III)Z"⟩, 7) := ⟨⟨by decide +kernel, by decide +kernel⟩, List.mem_of_getElem? (i := 16) (by decide +kernel), List.mem_of_getElem? (i := 438) (by decide +kernel), List.mem_of_getElem? (i := 439) (by decide +kernel)⟩
theorem lw_p8 : lw_okq (⟨"TwoTuesdays$Tape", "skipWord", "()V"⟩, 6) := ⟨⟨by decide +kernel, by decide +kernel⟩, List.mem_of_getElem? (i := 91) (by decide +kernel), List.mem_of_getElem? (i := 494) (by decide +kernel), List.mem_of_getElem? (i := 495) (by decide +kernel)⟩
theorem lw_p9 : lw_okq (⟨"TwoTuesdays$Tape", "skipNumber", "()V"⟩, 6) := ⟨⟨by decide +kernel, by decide +kernel⟩, List.mem_of_getElem? (i := 91) (by decide +kernel), List.mem_of_getElem? (i := 498) (by decide +kernel), List.mem_of_getElem? (i := 499) (by decide +kernel)⟩
theorem lw_p10 : lw_okq (⟨"TwoTuesdays$TextReader", "readItem", "()Z"⟩, 4) := ⟨⟨by decide +kernel, by decide +kernel⟩, List.mem_of_getElem? (i := 85) (by decide +kernel), List.mem_of_getElem? (i := 502) (by decide +kernel), List.mem_of_getElem? (i := 503) (by decide +kernel)⟩
theorem lw_p11 : lw_okq (⟨"TwoTuesdays$TextReader", "readPrize", "()Z"⟩, 4) := ⟨⟨by decide +kernel, by decide +kernel⟩, List.mem_of_getElem? (i := 85) (by decide +kernel), List.mem_of_getElem? (i := 560) (by decide +kernel), List.mem_of_getElem? (i := 561) (by decide +kernel)⟩
theorem lw_p12 : lw_okq (⟨"TwoTuesdays$TextReader", "isNumberHere", "(I)Z"⟩, 4) := ⟨⟨by decide +kernel, by decide +kernel⟩, List.mem_of_getElem? (i := 85) (by decide +kernel), List.mem_of_getElem? (i := 564) (by decide +kernel), List.mem_of_getElem? (i := 565) (by decide +kernel)⟩
theorem lw_p13 : lw_okq (⟨"TwoTuesdays$TextReader", "kindHere", "()I"⟩, 4) := ⟨⟨by decide +kernel, by decide +kernel⟩, List.mem_of_getElem? (i := 85) (by decide +kernel), List.mem_of_getElem? (i := 568) (by decide +kernel), List.mem_of_getElem? (i := 569) (by decide +kernel)⟩
theorem lw_p14 : lw_okq (⟨"TwoTuesdays$TextReader", "readTraits", "(I)Z"⟩, 4) := ⟨⟨by decide +kernel, by decide +kernel⟩, List.mem_of_getElem? (i := 85) (by decide +kernel), List.mem_of_getElem? (i := 584) (by decide +kernel), List.mem_of_getElem? (i := 585) (by decide +kernel)⟩
theorem lw_p15 : lw_okq (⟨"TwoTuesdays$TextReader", "readTrait", "(Ljava/lang/String;III)Z"⟩, 4) := ⟨⟨by decide +kernel, by decide +kernel⟩, List.mem_of_getElem? (i := 85) (by decide +kernel), List.mem_of_getElem? (i := 589) (by decide +kernel), List.mem_of_getElem? (i := 590) (by decide +kernel)⟩
def lw_privs_1 : List (MethodName × Nat) := [(⟨"TwoTuesdays", "found", "(I)I"⟩, 7), (⟨"TwoTuesdays$Town", "bestPlaceFor", "(I)I"⟩, 13), (⟨"TwoTuesdays", "isThere", "(I)Z"⟩, 7), (⟨"TwoTuesdays", "richestWith", "(III)I"⟩, 7), (⟨"TwoTuesdays", "comersIfTold", "(II)I"⟩, 7), (⟨"TwoTuesdays", "goodsIfSwapped", "(III)I"⟩, 7), (⟨"TwoTuesdays", "fittingTraits", "(III)I"⟩, 7), (⟨"TwoTuesdays", "fitsWith", "(LTwoTuesdays$Sheet;III)Z"⟩, 7), (⟨"TwoTuesdays$Tape", "skipWord", "()V"⟩, 6), (⟨"TwoTuesdays$Tape", "skipNumber", "()V"⟩, 6), (⟨"TwoTuesdays$TextReader", "readItem", "()Z"⟩, 4), (⟨"TwoTuesdays$TextReader", "readPrize", "()Z"⟩, 4), (⟨"TwoTuesdays$TextReader", "isNumberHere", "(I)Z"⟩, 4), (⟨"TwoTuesdays$TextReader", "kindHere", "()I"⟩, 4), (⟨"TwoTuesdays$TextReader", "readTraits", "(I)Z"⟩, 4), (⟨"TwoTuesdays$TextReader", "readTrait", "(Ljava/lang/String;III)Z"⟩, 4)]
theorem lw_r1 : ∀ q ∈ lw_privs_1, lw_okq q := List.forall_mem_cons.mpr ⟨lw_p0, List.forall_mem_cons.mpr ⟨lw_p1, List.forall_mem_cons.mpr ⟨lw_p2, List.forall_mem_cons.mpr ⟨lw_p3, List.forall_mem_cons.mpr ⟨lw_p4, List.forall_mem_cons.mpr ⟨lw_p5, List.forall_mem_cons.mpr ⟨lw_p6, List.forall_mem_cons.mpr ⟨lw_p7, List.forall_mem_cons.mpr ⟨lw_p8, List.forall_mem_cons.mpr ⟨lw_p9, List.forall_mem_cons.mpr ⟨lw_p10, List.forall_mem_cons.mpr ⟨lw_p11, List.forall_mem_cons.mpr ⟨lw_p12, List.forall_mem_cons.mpr ⟨lw_p13, List.forall_mem_cons.mpr ⟨lw_p14, List.forall_mem_cons.mpr ⟨lw_p15, fun _ h => absurd h List.not_mem_nil⟩⟩⟩⟩⟩⟩⟩⟩⟩⟩⟩⟩⟩⟩⟩⟩
theorem lw_p16 : lw_okq (⟨"TwoTuesdays$TextReader", "failHere", "()Z"⟩, 4) := ⟨⟨by decide +kernel, by decide +kernel⟩, List.mem_of_getElem? (i := 85) (by decide +kernel), List.mem_of_getElem? (i := 596) (by decide +kernel), List.mem_of_getElem? (i := 597) (by decide +kernel)⟩
theorem lw_p17 : lw_okq (⟨"TwoTuesdaysModel", "become", "(II)I"⟩, 23) := ⟨⟨by decide +kernel, by decide +kernel⟩, List.mem_of_getElem? (i := 677) (by decide +kernel), List.mem_of_getElem? (i := 775) (by decide +kernel), List.mem_of_getElem? (i := 776) (by decide +kernel)⟩
theorem lw_p18 : lw_okq (⟨"TwoTuesdaysModel", "finding", "(I)I"⟩, 23) := ⟨⟨by decide +kernel, by decide +kernel⟩, List.mem_of_getElem? (i := 677) (by decide +kernel), List.mem_of_getElem? (i := 780) (by decide +kernel), List.mem_of_getElem? (i := 781) (by decide +kernel)⟩
theorem lw_p19 : lw_okq (⟨"TwoTuesdaysModel", "comes", "(IIII)I"⟩, 23) := ⟨⟨by decide +kernel, by decide +kernel⟩, List.mem_of_getElem? (i := 677) (by decide +kernel), List.mem_of_getElem? (i := 792) (by decide +kernel), List.mem_of_getElem? (i := 793) (by decide +kernel)⟩
theorem lw_p20 : lw_okq (⟨"TwoTuesdaysModel", "looksAt", "()V"⟩, 23) := ⟨⟨by decide +kernel, by decide +kernel⟩, List.mem_of_getElem? (i := 677) (by decide +kernel), List.mem_of_getElem? (i := 803) (by decide +kernel), List.mem_of_getElem? (i := 804) (by decide +kernel)⟩
theorem lw_p21 : lw_okq (⟨"TwoTuesdaysModel", "choiceOf", "(I)I"⟩, 23) := ⟨⟨by decide +kernel, by decide +kernel⟩, List.mem_of_getElem? (i := 677) (by decide +kernel), List.mem_of_getElem? (i := 807) (by decide +kernel), List.mem_of_getElem? (i := 808) (by decide +kernel)⟩
theorem lw_p22 : lw_okq (⟨"TwoTuesdaysModel", "personIs", "(II)I"⟩, 23) := ⟨⟨by decide +kernel, by decide +kernel⟩, List.mem_of_getElem? (i := 677) (by decide +kernel), List.mem_of_getElem? (i := 811) (by decide +kernel), List.mem_of_getElem? (i := 812) (by decide +kernel)⟩
theorem lw_p23 : lw_okq (⟨"TwoTuesdaysModel", "wishAt", "(II)I"⟩, 23) := ⟨⟨by decide +kernel, by decide +kernel⟩, List.mem_of_getElem? (i := 677) (by decide +kernel), List.mem_of_getElem? (i := 815) (by decide +kernel), List.mem_of_getElem? (i := 816) (by decide +kernel)⟩
theorem lw_p24 : lw_okq (⟨"TwoTuesdaysModel", "seenAt", "(II)I"⟩, 23) := ⟨⟨by decide +kernel, by decide +kernel⟩, List.mem_of_getElem? (i := 677) (by decide +kernel), List.mem_of_getElem? (i := 819) (by decide +kernel), List.mem_of_getElem? (i := 820) (by decide +kernel)⟩
theorem lw_p25 : lw_okq (⟨"TwoTuesdaysModel", "planners", "(I)I"⟩, 23) := ⟨⟨by decide +kernel, by decide +kernel⟩, List.mem_of_getElem? (i := 677) (by decide +kernel), List.mem_of_getElem? (i := 823) (by decide +kernel), List.mem_of_getElem? (i := 824) (by decide +kernel)⟩
theorem lw_p26 : lw_okq (⟨"TwoTuesdaysModel", "loverWish", "(III)I"⟩, 23) := ⟨⟨by decide +kernel, by decide +kernel⟩, List.mem_of_getElem? (i := 677) (by decide +kernel), List.mem_of_getElem? (i := 830) (by decide +kernel), List.mem_of_getElem? (i := 831) (by decide +kernel)⟩
theorem lw_p27 : lw_okq (⟨"TwoTuesdaysModel", "canSee", "(II)Z"⟩, 23) := ⟨⟨by decide +kernel, by decide +kernel⟩, List.mem_of_getElem? (i := 677) (by decide +kernel), List.mem_of_getElem? (i := 834) (by decide +kernel), List.mem_of_getElem? (i := 835) (by decide +kernel)⟩
theorem lw_p28 : lw_okq (⟨"TwoTuesdaysModel", "comers", "(I)I"⟩, 23) := ⟨⟨by decide +kernel, by decide +kernel⟩, List.mem_of_getElem? (i := 677) (by decide +kernel), List.mem_of_getElem? (i := 839) (by decide +kernel), List.mem_of_getElem? (i := 840) (by decide +kernel)⟩
theorem lw_p29 : lw_okq (⟨"TwoTuesdaysModel", "isPerson", "(I)Z"⟩, 23) := ⟨⟨by decide +kernel, by decide +kernel⟩, List.mem_of_getElem? (i := 677) (by decide +kernel), List.mem_of_getElem? (i := 847) (by decide +kernel), List.mem_of_getElem? (i := 848) (by decide +kernel)⟩
theorem lw_p30 : lw_okq (⟨"TwoTuesdaysModel", "doesRegret", "(I)Z"⟩, 23) := ⟨⟨by decide +kernel, by decide +kernel⟩, List.mem_of_getElem? (i := 677) (by decide +kernel), List.mem_of_getElem? (i := 851) (by decide +kernel), List.mem_of_getElem? (i := 852) (by decide +kernel)⟩
theorem lw_p31 : lw_okq (⟨"TwoTuesdaysModel", "mayBe", "(III)Z"⟩, 23) := ⟨⟨by decide +kernel, by decide +kernel⟩, List.mem_of_getElem? (i := 677) (by decide +kernel), List.mem_of_getElem? (i := 859) (by decide +kernel), List.mem_of_getElem? (i := 860) (by decide +kernel)⟩
def lw_privs_2 : List (MethodName × Nat) := [(⟨"TwoTuesdays$TextReader", "failHere", "()Z"⟩, 4), (⟨"TwoTuesdaysModel", "become", "(II)I"⟩, 23), (⟨"TwoTuesdaysModel", "finding", "(I)I"⟩, 23), (⟨"TwoTuesdaysModel", "comes", "(IIII)I"⟩, 23), (⟨"TwoTuesdaysModel", "looksAt", "()V"⟩, 23), (⟨"TwoTuesdaysModel", "choiceOf", "(I)I"⟩, 23), (⟨"TwoTuesdaysModel", "personIs", "(II)I"⟩, 23), (⟨"TwoTuesdaysModel", "wishAt", "(II)I"⟩, 23), (⟨"TwoTuesdaysModel", "seenAt", "(II)I"⟩, 23), (⟨"TwoTuesdaysModel", "planners", "(I)I"⟩, 23), (⟨"TwoTuesdaysModel", "loverWish", "(III)I"⟩, 23), (⟨"TwoTuesdaysModel", "canSee", "(II)Z"⟩, 23), (⟨"TwoTuesdaysModel", "comers", "(I)I"⟩, 23), (⟨"TwoTuesdaysModel", "isPerson", "(I)Z"⟩, 23), (⟨"TwoTuesdaysModel", "doesRegret", "(I)Z"⟩, 23), (⟨"TwoTuesdaysModel", "mayBe", "(III)Z"⟩, 23)]
theorem lw_r2 : ∀ q ∈ lw_privs_2, lw_okq q := List.forall_mem_cons.mpr ⟨lw_p16, List.forall_mem_cons.mpr ⟨lw_p17, List.forall_mem_cons.mpr ⟨lw_p18, List.forall_mem_cons.mpr ⟨lw_p19, List.forall_mem_cons.mpr ⟨lw_p20, List.forall_mem_cons.mpr ⟨lw_p21, List.forall_mem_cons.mpr ⟨lw_p22, List.forall_mem_cons.mpr ⟨lw_p23, List.forall_mem_cons.mpr ⟨lw_p24, List.forall_mem_cons.mpr ⟨lw_p25, List.forall_mem_cons.mpr ⟨lw_p26, List.forall_mem_cons.mpr ⟨lw_p27, List.forall_mem_cons.mpr ⟨lw_p28, List.forall_mem_cons.mpr ⟨lw_p29, List.forall_mem_cons.mpr ⟨lw_p30, List.forall_mem_cons.mpr ⟨lw_p31, fun _ h => absurd h List.not_mem_nil⟩⟩⟩⟩⟩⟩⟩⟩⟩⟩⟩⟩⟩⟩⟩⟩
theorem lw_p32 : lw_okq (⟨"TwoTuesdaysModel", "goesOn", "(I)V"⟩, 23) := ⟨⟨by decide +kernel, by decide +kernel⟩, List.mem_of_getElem? (i := 677) (by decide +kernel), List.mem_of_getElem? (i := 878) (by decide +kernel), List.mem_of_getElem? (i := 879) (by decide +kernel)⟩
theorem lw_p33 : lw_okq (⟨"TwoTuesdaysModel", "goes", "()V"⟩, 23) := ⟨⟨by decide +kernel, by decide +kernel⟩, List.mem_of_getElem? (i := 677) (by decide +kernel), List.mem_of_getElem? (i := 882) (by decide +kernel), List.mem_of_getElem? (i := 883) (by decide +kernel)⟩
theorem lw_p34 : lw_okq (⟨"TwoTuesdaysModel", "goodsAll", "()I"⟩, 23) := ⟨⟨by decide +kernel, by decide +kernel⟩, List.mem_of_getElem? (i := 677) (by decide +kernel), List.mem_of_getElem? (i := 887) (by decide +kernel), List.mem_of_getElem? (i := 888) (by decide +kernel)⟩
theorem lw_p35 : lw_okq (⟨"TwoTuesdaysModel", "whoRegrets", "()I"⟩, 23) := ⟨⟨by decide +kernel, by decide +kernel⟩, List.mem_of_getElem? (i := 677) (by decide +kernel), List.mem_of_getElem? (i := 895) (by decide +kernel), List.mem_of_getElem? (i := 896) (by decide +kernel)⟩
theorem lw_p36 : lw_okq (⟨"TwoTuesdaysModel", "comePlaces", "()I"⟩, 23) := ⟨⟨by decide +kernel, by decide +kernel⟩, List.mem_of_getElem? (i := 677) (by decide +kernel), List.mem_of_getElem? (i := 899) (by decide +kernel), List.mem_of_getElem? (i := 900) (by decide +kernel)⟩
theorem lw_p37 : lw_okq (⟨"TwoTuesdaysModel", "whoMoves", "()I"⟩, 23) := ⟨⟨by decide +kernel, by decide +kernel⟩, List.mem_of_getElem? (i := 677) (by decide +kernel), List.mem_of_getElem? (i := 903) (by decide +kernel), List.mem_of_getElem? (i := 904) (by decide +kernel)⟩
theorem lw_p38 : lw_okq (⟨"TwoTuesdaysModel", "richest", "()I"⟩, 23) := ⟨⟨by decide +kernel, by decide +kernel⟩, List.mem_of_getElem? (i := 677) (by decide +kernel), List.mem_of_getElem? (i := 907) (by decide +kernel), List.mem_of_getElem? (i := 908) (by decide +kernel)⟩
theorem lw_p39 : lw_okq (⟨"TwoTuesdaysModel", "behind", "(II)I"⟩, 23) := ⟨⟨by decide +kernel, by decide +kernel⟩, List.mem_of_getElem? (i := 677) (by decide +kernel), List.mem_of_getElem? (i := 918) (by decide +kernel), List.mem_of_getElem? (i := 919) (by decide +kernel)⟩
theorem lw_p40 : lw_okq (⟨"TwoTuesdaysModel", "putBack", "(I)I"⟩, 23) := ⟨⟨by decide +kernel, by decide +kernel⟩, List.mem_of_getElem? (i := 677) (by decide +kernel), List.mem_of_getElem? (i := 925) (by decide +kernel), List.mem_of_getElem? (i := 926) (by decide +kernel)⟩
theorem lw_p41 : lw_okq (⟨"TwoTuesdaysModel", "orNone", "(I)I"⟩, 23) := ⟨⟨by decide +kernel, by decide +kernel⟩, List.mem_of_getElem? (i := 677) (by decide +kernel), List.mem_of_getElem? (i := 937) (by decide +kernel), List.mem_of_getElem? (i := 938) (by decide +kernel)⟩
theorem lw_p42 : lw_okq (⟨"TwoTuesdaysModel", "arePlansAside", "()Z"⟩, 23) := ⟨⟨by decide +kernel, by decide +kernel⟩, List.mem_of_getElem? (i := 677) (by decide +kernel), List.mem_of_getElem? (i := 945) (by decide +kernel), List.mem_of_getElem? (i := 946) (by decide +kernel)⟩
theorem lw_p43 : lw_okq (⟨"TwoTuesdaysModel", "doMeet", "(II)Z"⟩, 23) := ⟨⟨by decide +kernel, by decide +kernel⟩, List.mem_of_getElem? (i := 677) (by decide +kernel), List.mem_of_getElem? (i := 953) (by decide +kernel), List.mem_of_getElem? (i := 954) (by decide +kernel)⟩
theorem lw_p44 : lw_okq (⟨"TwoTuesdaysModel", "isTried", "(II)Z"⟩, 23) := ⟨⟨by decide +kernel, by decide +kernel⟩, List.mem_of_getElem? (i := 677) (by decide +kernel), List.mem_of_getElem? (i := 966) (by decide +kernel), List.mem_of_getElem? (i := 967) (by decide +kernel)⟩
theorem lw_p45 : lw_okq (⟨"TwoTuesdaysModel", "bestFor", "(IIIII)I"⟩, 23) := ⟨⟨by decide +kernel, by decide +kernel⟩, List.mem_of_getElem? (i := 677) (by decide +kernel), List.mem_of_getElem? (i := 970) (by decide +kernel), List.mem_of_getElem? (i := 971) (by decide +kernel)⟩
theorem lw_p46 : lw_okq (⟨"TwoTuesdaysModel", "manyNow", "(I)I"⟩, 23) := ⟨⟨by decide +kernel, by decide +kernel⟩, List.mem_of_getElem? (i := 677) (by decide +kernel), List.mem_of_getElem? (i := 990) (by decide +kernel), List.mem_of_getElem? (i := 991) (by decide +kernel)⟩
theorem lw_p47 : lw_okq (⟨"TwoTuesdaysModel", "manyIfTold", "(II)I"⟩, 23) := ⟨⟨by decide +kernel, by decide +kernel⟩, List.mem_of_getElem? (i := 677) (by decide +kernel), List.mem_of_getElem? (i := 998) (by decide +kernel), List.mem_of_getElem? (i := 999) (by decide +kernel)⟩
def lw_privs_3 : List (MethodName × Nat) := [(⟨"TwoTuesdaysModel", "goesOn", "(I)V"⟩, 23), (⟨"TwoTuesdaysModel", "goes", "()V"⟩, 23), (⟨"TwoTuesdaysModel", "goodsAll", "()I"⟩, 23), (⟨"TwoTuesdaysModel", "whoRegrets", "()I"⟩, 23), (⟨"TwoTuesdaysModel", "comePlaces", "()I"⟩, 23), (⟨"TwoTuesdaysModel", "whoMoves", "()I"⟩, 23), (⟨"TwoTuesdaysModel", "richest", "()I"⟩, 23), (⟨"TwoTuesdaysModel", "behind", "(II)I"⟩, 23), (⟨"TwoTuesdaysModel", "putBack", "(I)I"⟩, 23), (⟨"TwoTuesdaysModel", "orNone", "(I)I"⟩, 23), (⟨"TwoTuesdaysModel", "arePlansAside", "()Z"⟩, 23), (⟨"TwoTuesdaysModel", "doMeet", "(II)Z"⟩, 23), (⟨"TwoTuesdaysModel", "isTried", "(II)Z"⟩, 23), (⟨"TwoTuesdaysModel", "bestFor", "(IIIII)I"⟩, 23), (⟨"TwoTuesdaysModel", "manyNow", "(I)I"⟩, 23), (⟨"TwoTuesdaysModel", "manyIfTold", "(II)I"⟩, 23)]
theorem lw_r3 : ∀ q ∈ lw_privs_3, lw_okq q := List.forall_mem_cons.mpr ⟨lw_p32, List.forall_mem_cons.mpr ⟨lw_p33, List.forall_mem_cons.mpr ⟨lw_p34, List.forall_mem_cons.mpr ⟨lw_p35, List.forall_mem_cons.mpr ⟨lw_p36, List.forall_mem_cons.mpr ⟨lw_p37, List.forall_mem_cons.mpr ⟨lw_p38, List.forall_mem_cons.mpr ⟨lw_p39, List.forall_mem_cons.mpr ⟨lw_p40, List.forall_mem_cons.mpr ⟨lw_p41, List.forall_mem_cons.mpr ⟨lw_p42, List.forall_mem_cons.mpr ⟨lw_p43, List.forall_mem_cons.mpr ⟨lw_p44, List.forall_mem_cons.mpr ⟨lw_p45, List.forall_mem_cons.mpr ⟨lw_p46, List.forall_mem_cons.mpr ⟨lw_p47, fun _ h => absurd h List.not_mem_nil⟩⟩⟩⟩⟩⟩⟩⟩⟩⟩⟩⟩⟩⟩⟩⟩
theorem lw_p48 : lw_okq (⟨"TwoTuesdaysModel", "goodsWithout", "(I)I"⟩, 23) := ⟨⟨by decide +kernel, by decide +kernel⟩, List.mem_of_getElem? (i := 677) (by decide +kernel), List.mem_of_getElem? (i := 1009) (by decide +kernel), List.mem_of_getElem? (i := 1010) (by decide +kernel)⟩
theorem lw_p49 : lw_okq (⟨"TwoTuesdaysModel", "goodsSwapped", "(III)I"⟩, 23) := ⟨⟨by decide +kernel, by decide +kernel⟩, List.mem_of_getElem? (i := 677) (by decide +kernel), List.mem_of_getElem? (i := 1017) (by decide +kernel), List.mem_of_getElem? (i := 1018) (by decide +kernel)⟩
theorem lw_p50 : lw_okq (⟨"TwoTuesdaysModel", "lacks", "(I)I"⟩, 23) := ⟨⟨by decide +kernel, by decide +kernel⟩, List.mem_of_getElem? (i := 677) (by decide +kernel), List.mem_of_getElem? (i := 1025) (by decide +kernel), List.mem_of_getElem? (i := 1026) (by decide +kernel)⟩
theorem lw_p51 : lw_okq (⟨"TwoTuesdaysModel", "fitting", "(IIII)I"⟩, 23) := ⟨⟨by decide +kernel, by decide +kernel⟩, List.mem_of_getElem? (i := 677) (by decide +kernel), List.mem_of_getElem? (i := 1033) (by decide +kernel), List.mem_of_getElem? (i := 1034) (by decide +kernel)⟩
theorem lw_p52 : lw_okq (⟨"TwoTuesdaysModel", "wentSo", "(II)Z"⟩, 23) := ⟨⟨by decide +kernel, by decide +kernel⟩, List.mem_of_getElem? (i := 677) (by decide +kernel), List.mem_of_getElem? (i := 1037) (by decide +kernel), List.mem_of_getElem? (i := 1038) (by decide +kernel)⟩
theorem lw_p53 : lw_okq (⟨"TwoTuesdaysModel", "drawn", "()I"⟩, 23) := ⟨⟨by decide +kernel, by decide +kernel⟩, List.mem_of_getElem? (i := 677) (by decide +kernel), List.mem_of_getElem? (i := 1049) (by decide +kernel), List.mem_of_getElem? (i := 1050) (by decide +kernel)⟩
theorem lw_p54 : lw_okq (⟨"TwoTuesdaysModel", "next", "()V"⟩, 23) := ⟨⟨by decide +kernel, by decide +kernel⟩, List.mem_of_getElem? (i := 677) (by decide +kernel), List.mem_of_getElem? (i := 1074) (by decide +kernel), List.mem_of_getElem? (i := 1075) (by decide +kernel)⟩
theorem lw_p55 : lw_okq (⟨"TwoTuesdaysModel", "byteAt", "(I)I"⟩, 23) := ⟨⟨by decide +kernel, by decide +kernel⟩, List.mem_of_getElem? (i := 677) (by decide +kernel), List.mem_of_getElem? (i := 1078) (by decide +kernel), List.mem_of_getElem? (i := 1079) (by decide +kernel)⟩
theorem lw_p56 : lw_okq (⟨"TwoTuesdaysModel", "readItem", "()V"⟩, 23) := ⟨⟨by decide +kernel, by decide +kernel⟩, List.mem_of_getElem? (i := 677) (by decide +kernel), List.mem_of_getElem? (i := 1082) (by decide +kernel), List.mem_of_getElem? (i := 1083) (by decide +kernel)⟩
theorem lw_p57 : lw_okq (⟨"TwoTuesdaysModel", "kindTold", "()I"⟩, 23) := ⟨⟨by decide +kernel, by decide +kernel⟩, List.mem_of_getElem? (i := 677) (by decide +kernel), List.mem_of_getElem? (i := 1086) (by decide +kernel), List.mem_of_getElem? (i := 1087) (by decide +kernel)⟩
theorem lw_p58 : lw_okq (⟨"TwoTuesdaysModel", "isWord", "(Ljava/lang/String;)Z"⟩, 23) := ⟨⟨by decide +kernel, by decide +kernel⟩, List.mem_of_getElem? (i := 677) (by decide +kernel), List.mem_of_getElem? (i := 1090) (by decide +kernel), List.mem_of_getElem? (i := 1091) (by decide +kernel)⟩
theorem lw_p59 : lw_okq (⟨"TwoTuesdaysModel", "must", "(Z)V"⟩, 23) := ⟨⟨by decide +kernel, by decide +kernel⟩, List.mem_of_getElem? (i := 677) (by decide +kernel), List.mem_of_getElem? (i := 1096) (by decide +kernel), List.mem_of_getElem? (i := 1097) (by decide +kernel)⟩
theorem lw_p60 : lw_okq (⟨"TwoTuesdaysModel", "afterWord", "(Ljava/lang/String;II)I"⟩, 23) := ⟨⟨by decide +kernel, by decide +kernel⟩, List.mem_of_getElem? (i := 677) (by decide +kernel), List.mem_of_getElem? (i := 1101) (by decide +kernel), List.mem_of_getElem? (i := 1102) (by decide +kernel)⟩
theorem lw_p61 : lw_okq (⟨"TwoTuesdaysModel", "number", "(II)I"⟩, 23) := ⟨⟨by decide +kernel, by decide +kernel⟩, List.mem_of_getElem? (i := 677) (by decide +kernel), List.mem_of_getElem? (i := 1105) (by decide +kernel), List.mem_of_getElem? (i := 1106) (by decide +kernel)⟩
theorem lw_p62 : lw_okq (⟨"TwoTuesdaysModel", "addItem", "(IIII)V"⟩, 23) := ⟨⟨by decide +kernel, by decide +kernel⟩, List.mem_of_getElem? (i := 677) (by decide +kernel), List.mem_of_getElem? (i := 1111) (by decide +kernel), List.mem_of_getElem? (i := 1112) (by decide +kernel)⟩
theorem lw_p63 : lw_okq (⟨"TwoTuesdaysModel", "isToldSo", "(I)I"⟩, 23) := ⟨⟨by decide +kernel, by decide +kernel⟩, List.mem_of_getElem? (i := 677) (by decide +kernel), List.mem_of_getElem? (i := 1116) (by decide +kernel), List.mem_of_getElem? (i := 1117) (by decide +kernel)⟩
def lw_privs_4 : List (MethodName × Nat) := [(⟨"TwoTuesdaysModel", "goodsWithout", "(I)I"⟩, 23), (⟨"TwoTuesdaysModel", "goodsSwapped", "(III)I"⟩, 23), (⟨"TwoTuesdaysModel", "lacks", "(I)I"⟩, 23), (⟨"TwoTuesdaysModel", "fitting", "(IIII)I"⟩, 23), (⟨"TwoTuesdaysModel", "wentSo", "(II)Z"⟩, 23), (⟨"TwoTuesdaysModel", "drawn", "()I"⟩, 23), (⟨"TwoTuesdaysModel", "next", "()V"⟩, 23), (⟨"TwoTuesdaysModel", "byteAt", "(I)I"⟩, 23), (⟨"TwoTuesdaysModel", "readItem", "()V"⟩, 23), (⟨"TwoTuesdaysModel", "kindTold", "()I"⟩, 23), (⟨"TwoTuesdaysModel", "isWord", "(Ljava/lang/String;)Z"⟩, 23), (⟨"TwoTuesdaysModel", "must", "(Z)V"⟩, 23), (⟨"TwoTuesdaysModel", "afterWord", "(Ljava/lang/String;II)I"⟩, 23), (⟨"TwoTuesdaysModel", "number", "(II)I"⟩, 23), (⟨"TwoTuesdaysModel", "addItem", "(IIII)V"⟩, 23), (⟨"TwoTuesdaysModel", "isToldSo", "(I)I"⟩, 23)]
theorem lw_r4 : ∀ q ∈ lw_privs_4, lw_okq q := List.forall_mem_cons.mpr ⟨lw_p48, List.forall_mem_cons.mpr ⟨lw_p49, List.forall_mem_cons.mpr ⟨lw_p50, List.forall_mem_cons.mpr ⟨lw_p51, List.forall_mem_cons.mpr ⟨lw_p52, List.forall_mem_cons.mpr ⟨lw_p53, List.forall_mem_cons.mpr ⟨lw_p54, List.forall_mem_cons.mpr ⟨lw_p55, List.forall_mem_cons.mpr ⟨lw_p56, List.forall_mem_cons.mpr ⟨lw_p57, List.forall_mem_cons.mpr ⟨lw_p58, List.forall_mem_cons.mpr ⟨lw_p59, List.forall_mem_cons.mpr ⟨lw_p60, List.forall_mem_cons.mpr ⟨lw_p61, List.forall_mem_cons.mpr ⟨lw_p62, List.forall_mem_cons.mpr ⟨lw_p63, fun _ h => absurd h List.not_mem_nil⟩⟩⟩⟩⟩⟩⟩⟩⟩⟩⟩⟩⟩⟩⟩⟩
def lw_privs : List (MethodName × Nat) := lw_privs_1 ++ (lw_privs_2 ++ (lw_privs_3 ++ (lw_privs_4)))
def lw_tbl : List Cond := k2_sels lw_privs ++ tables_1
theorem lw_privs_ok : ∀ q ∈ lw_privs, lw_okq q := by
  show ∀ q ∈ lw_privs_1 ++ (lw_privs_2 ++ (lw_privs_3 ++ (lw_privs_4))), lw_okq q
  exact List.forall_mem_append.mpr ⟨lw_r1, List.forall_mem_append.mpr ⟨lw_r2, List.forall_mem_append.mpr ⟨lw_r3, lw_r4⟩⟩⟩
-- ===== end of PART A; then your names; then what follows =====
end
section
/-! ===== BEGIN words of one list among another's, by their places ===== -/
theorem goodIn_r {big : List Cond} (ws : List Cond) (ps : List Nat) (hp : ws = ps.filterMap (fun i => big[i]?)) (h : ws.all goodWord = true) : GoodIn big ws := by
  intro w hw
  have h1 := List.all_eq_true.mp h w hw
  rw [hp] at hw
  obtain ⟨i, -, hi⟩ := List.mem_filterMap.mp hw
  have hm : w ∈ big := by first | exact List.mem_of_getElem? hi | exact List.getElem?_mem hi
  exact ⟨hm, good_of_word h1⟩
theorem goodIn_app {big a b : List Cond} (ha : GoodIn big a) (hb : GoodIn big b) : GoodIn big (a ++ b) := fun w h => (List.mem_append.mp h).elim (ha w) (hb w)
theorem goodIn_ca {big a b : List Cond} {c : Cond} (ha : GoodIn big (c :: a)) (hb : GoodIn big b) : GoodIn big (c :: (a ++ b)) := fun w h => (List.mem_cons.mp h).elim (fun e => ha w (List.mem_cons.mpr (Or.inl e))) (fun h => (List.mem_append.mp h).elim (fun h => ha w (List.mem_cons.mpr (Or.inr h))) (hb w))
theorem goodIn_sub {big ws : List Cond} (hm : ∀ w ∈ ws, w ∈ big) (h : ws.all goodWord = true) : GoodIn big ws := fun w hw => ⟨hm w hw, good_of_word (List.all_eq_true.mp h w hw)⟩
/-! ===== END ===== -/

/-! ===== BEGIN printed: names, fields, word lists, decode rows ===== -/
def RX0 : String := "TwoTuesdays$Sheet"
def TX0 : u_T := fun k => match k with
  | 0 => ("TwoTuesdays$Sheet", "numbers", "[I", true)
  | 1 => ("TwoTuesdays$Sheet", "bits", "I", false)
  | _ => ("TwoTuesdays$Sheet", "size", "I", false)
def tyX0 : Nat → FieldType := fun k => match k with
  | 0 => .array .int
  | 1 => .int
  | _ => .int
abbrev wsX00 : List Cond := u_ws RX0 TX0 3
theorem nmX0 : ∀ a, a < 3 → ∀ b, b < 3 → a ≠ b → (TX0 a).2.1 ≠ (TX0 b).2.1 := by decide +kernel
theorem tyX0_ok : ∀ k, k < 3 → parseFieldDescriptor (TX0 k).2.2.1 = some (tyX0 k) := by decide +kernel
abbrev cX0_init : ByteArray := prog_2_method_1_code
def yX0_init : MethodName := ⟨RX0, "<init>", "()V"⟩
abbrev cX0_begin : ByteArray := prog_2_method_2_code
def yX0_begin : MethodName := ⟨RX0, "begin", "(II)V"⟩
abbrev cX0_isMissing : ByteArray := prog_2_method_3_code
def yX0_isMissing : MethodName := ⟨RX0, "isMissing", "()Z"⟩
abbrev cX0_hasNumbers : ByteArray := prog_2_method_4_code
def yX0_hasNumbers : MethodName := ⟨RX0, "hasNumbers", "(II)Z"⟩
abbrev cX0_put : ByteArray := prog_2_method_5_code
def yX0_put : MethodName := ⟨RX0, "put", "(II)V"⟩
def RX1 : String := "TwoTuesdays$Tape"
def TX1 : u_T := fun k => match k with
  | 0 => ("TwoTuesdays$Tape", "bytes", "[I", true)
  | 1 => ("TwoTuesdays$Tape", "length", "I", false)
  | 2 => ("TwoTuesdays$Tape", "token", "I", false)
  | 3 => ("TwoTuesdays$Tape", "begin", "I", false)
  | 4 => ("TwoTuesdays$Tape", "value", "I", false)
  | _ => ("TwoTuesdays$Tape", "end", "I", false)
def tyX1 : Nat → FieldType := fun k => match k with
  | 0 => .array .int
  | 1 => .int
  | 2 => .int
  | 3 => .int
  | 4 => .int
  | _ => .int
abbrev wsX10 : List Cond := u_ws RX1 TX1 6
theorem nmX1 : ∀ a, a < 6 → ∀ b, b < 6 → a ≠ b → (TX1 a).2.1 ≠ (TX1 b).2.1 := by decide +kernel
theorem tyX1_ok : ∀ k, k < 6 → parseFieldDescriptor (TX1 k).2.2.1 = some (tyX1 k) := by decide +kernel
abbrev cX1_init : ByteArray := prog_3_method_1_code
def yX1_init : MethodName := ⟨RX1, "<init>", "()V"⟩
abbrev cX1_append : ByteArray := prog_3_method_2_code
def yX1_append : MethodName := ⟨RX1, "append", "(I)V"⟩
abbrev cX1_rewind : ByteArray := prog_3_method_3_code
def yX1_rewind : MethodName := ⟨RX1, "rewind", "()V"⟩
abbrev cX1_step : ByteArray := prog_3_method_4_code
def yX1_step : MethodName := ⟨RX1, "step", "()V"⟩
abbrev cX1_skipWord : ByteArray := prog_3_method_5_code
def yX1_skipWord : MethodName := ⟨RX1, "skipWord", "()V"⟩
abbrev cX1_skipNumber : ByteArray := prog_3_method_6_code
def yX1_skipNumber : MethodName := ⟨RX1, "skipNumber", "()V"⟩
abbrev cX1_isWord : ByteArray := prog_3_method_7_code
def yX1_isWord : MethodName := ⟨RX1, "isWord", "(Ljava/lang/String;)Z"⟩
def RX2 : String := "TwoTuesdays$TextReader"
def TX2 : u_T := fun k => match k with
  | 0 => ("TwoTuesdays$TextReader", "tape", "LTwoTuesdays$Tape;", true)
  | 1 => ("TwoTuesdays$TextReader", "draft", "LTwoTuesdays$Town;", true)
  | 2 => ("TwoTuesdays$TextReader", "items", "I", false)
  | _ => ("TwoTuesdays$TextReader", "fault", "I", false)
def tyX2 : Nat → FieldType := fun k => match k with
  | 0 => .object "TwoTuesdays$Tape"
  | 1 => .object "TwoTuesdays$Town"
  | 2 => .int
  | _ => .int
abbrev wsX20 : List Cond := u_ws RX2 TX2 4
theorem nmX2 : ∀ a, a < 4 → ∀ b, b < 4 → a ≠ b → (TX2 a).2.1 ≠ (TX2 b).2.1 := by decide +kernel
theorem tyX2_ok : ∀ k, k < 4 → parseFieldDescriptor (TX2 k).2.2.1 = some (tyX2 k) := by decide +kernel
abbrev cX2_init : ByteArray := prog_4_method_1_code
def yX2_init : MethodName := ⟨RX2, "<init>", "()V"⟩
abbrev cX2_readItems : ByteArray := prog_4_method_2_code
def yX2_readItems : MethodName := ⟨RX2, "readItems", "()Z"⟩
abbrev cX2_failHere : ByteArray := prog_4_method_3_code
def yX2_failHere : MethodName := ⟨RX2, "failHere", "()Z"⟩
abbrev cX2_readItem : ByteArray := prog_4_method_4_code
def yX2_readItem : MethodName := ⟨RX2, "readItem", "()Z"⟩
abbrev cX2_kindHere : ByteArray := prog_4_method_5_code
def yX2_kindHere : MethodName := ⟨RX2, "kindHere", "()I"⟩
abbrev cX2_readPrize : ByteArray := prog_4_method_6_code
def yX2_readPrize : MethodName := ⟨RX2, "readPrize", "()Z"⟩
abbrev cX2_readTraits : ByteArray := prog_4_method_7_code
def yX2_readTraits : MethodName := ⟨RX2, "readTraits", "(I)Z"⟩
abbrev cX2_readTrait : ByteArray := prog_4_method_8_code
def yX2_readTrait : MethodName := ⟨RX2, "readTrait", "(Ljava/lang/String;III)Z"⟩
abbrev cX2_isNumberHere : ByteArray := prog_4_method_9_code
def yX2_isNumberHere : MethodName := ⟨RX2, "isNumberHere", "(I)Z"⟩
abbrev cX2_nameOf : ByteArray := prog_4_method_10_code
def yX2_nameOf : MethodName := ⟨RX2, "nameOf", "(I)Ljava/lang/String;"⟩
def RX3 : String := "TwoTuesdays$Town"
def TX3 : u_T := fun k => match k with
  | 0 => ("TwoTuesdays$Town", "prizeAt", "[I", true)
  | 1 => ("TwoTuesdays$Town", "kindOf", "[I", true)
  | 2 => ("TwoTuesdays$Town", "planOf", "[I", true)
  | 3 => ("TwoTuesdays$Town", "looksOf", "[I", true)
  | 4 => ("TwoTuesdays$Town", "loveOf", "[I", true)
  | 5 => ("TwoTuesdays$Town", "goodsOf", "[I", true)
  | 6 => ("TwoTuesdays$Town", "heldAt", "[I", true)
  | 7 => ("TwoTuesdays$Town", "people", "I", false)
  | 8 => ("TwoTuesdays$Town", "tuesday", "I", false)
  | 9 => ("TwoTuesdays$Town", "z", "I", false)
  | 10 => ("TwoTuesdays$Town", "plannedAt", "[I", true)
  | 11 => ("TwoTuesdays$Town", "choiceOf", "[I", true)
  | _ => ("TwoTuesdays$Town", "chosenAt", "[I", true)
def tyX3 : Nat → FieldType := fun k => match k with
  | 0 => .array .int
  | 1 => .array .int
  | 2 => .array .int
  | 3 => .array .int
  | 4 => .array .int
  | 5 => .array .int
  | 6 => .array .int
  | 7 => .int
  | 8 => .int
  | 9 => .int
  | 10 => .array .int
  | 11 => .array .int
  | _ => .array .int
abbrev wsX30 : List Cond := u_ws RX3 TX3 13
theorem nmX3 : ∀ a, a < 13 → ∀ b, b < 13 → a ≠ b → (TX3 a).2.1 ≠ (TX3 b).2.1 := by decide +kernel
theorem tyX3_ok : ∀ k, k < 13 → parseFieldDescriptor (TX3 k).2.2.1 = some (tyX3 k) := by decide +kernel
abbrev cX3_init : ByteArray := prog_5_method_1_code
def yX3_init : MethodName := ⟨RX3, "<init>", "()V"⟩
abbrev cX3_become : ByteArray := prog_5_method_2_code
def yX3_become : MethodName := ⟨RX3, "become", "(LTwoTuesdays$Town;)V"⟩
abbrev cX3_addOne : ByteArray := prog_5_method_3_code
def yX3_addOne : MethodName := ⟨RX3, "addOne", "(II)I"⟩
abbrev cX3_mayBecome : ByteArray := prog_5_method_4_code
def yX3_mayBecome : MethodName := ⟨RX3, "mayBecome", "(III)Z"⟩
abbrev cX3_traitOf : ByteArray := prog_5_method_5_code
def yX3_traitOf : MethodName := ⟨RX3, "traitOf", "(II)I"⟩
abbrev cX3_setTrait : ByteArray := prog_5_method_6_code
def yX3_setTrait : MethodName := ⟨RX3, "setTrait", "(III)V"⟩
abbrev cX3_settle : ByteArray := prog_5_method_7_code
def yX3_settle : MethodName := ⟨RX3, "settle", "()V"⟩
abbrev cX3_bestPlaceFor : ByteArray := prog_5_method_8_code
def yX3_bestPlaceFor : MethodName := ⟨RX3, "bestPlaceFor", "(I)I"⟩
abbrev cX3_canSee : ByteArray := prog_5_method_9_code
def yX3_canSee : MethodName := ⟨RX3, "canSee", "(II)Z"⟩
abbrev cX3_seenBy : ByteArray := prog_5_method_10_code
def yX3_seenBy : MethodName := ⟨RX3, "seenBy", "(II)I"⟩
abbrev cX3_wishAt : ByteArray := prog_5_method_11_code
def yX3_wishAt : MethodName := ⟨RX3, "wishAt", "(II)I"⟩
abbrev cX3_passTuesdays : ByteArray := prog_5_method_12_code
def yX3_passTuesdays : MethodName := ⟨RX3, "passTuesdays", "(I)V"⟩
abbrev cX3_getsNow : ByteArray := prog_5_method_13_code
def yX3_getsNow : MethodName := ⟨RX3, "getsNow", "(I)I"⟩
abbrev cX3_regretsNow : ByteArray := prog_5_method_14_code
def yX3_regretsNow : MethodName := ⟨RX3, "regretsNow", "(I)Z"⟩
abbrev cX3_regretters : ByteArray := prog_5_method_15_code
def yX3_regretters : MethodName := ⟨RX3, "regretters", "()I"⟩
abbrev cX3_movers : ByteArray := prog_5_method_16_code
def yX3_movers : MethodName := ⟨RX3, "movers", "()I"⟩
abbrev cX3_plannersOf : ByteArray := prog_5_method_17_code
def yX3_plannersOf : MethodName := ⟨RX3, "plannersOf", "(I)I"⟩
abbrev cX3_choosersOf : ByteArray := prog_5_method_18_code
def yX3_choosersOf : MethodName := ⟨RX3, "choosersOf", "(I)I"⟩
abbrev cX3_visitedPlaces : ByteArray := prog_5_method_19_code
def yX3_visitedPlaces : MethodName := ⟨RX3, "visitedPlaces", "()I"⟩
abbrev cX3_hasPlansOf : ByteArray := prog_5_method_20_code
def yX3_hasPlansOf : MethodName := ⟨RX3, "hasPlansOf", "(LTwoTuesdays$Town;)Z"⟩
abbrev cX3_goodsOfAll : ByteArray := prog_5_method_21_code
def yX3_goodsOfAll : MethodName := ⟨RX3, "goodsOfAll", "()I"⟩
abbrev cX3_richest : ByteArray := prog_5_method_22_code
def yX3_richest : MethodName := ⟨RX3, "richest", "()I"⟩
abbrev cX3_fullSpots : ByteArray := prog_5_method_23_code
def yX3_fullSpots : MethodName := ⟨RX3, "fullSpots", "()I"⟩
abbrev cX3_nextDraw : ByteArray := prog_5_method_24_code
def yX3_nextDraw : MethodName := ⟨RX3, "nextDraw", "()I"⟩
def RX4 : String := "TwoTuesdays"
def TX4 : u_T := fun k => match k with
  | 0 => ("TwoTuesdays", "town", "LTwoTuesdays$Town;", true)
  | 1 => ("TwoTuesdays", "kept", "LTwoTuesdays$Town;", true)
  | 2 => ("TwoTuesdays", "trial", "LTwoTuesdays$Town;", true)
  | 3 => ("TwoTuesdays", "reader", "LTwoTuesdays$TextReader;", true)
  | 4 => ("TwoTuesdays", "sheets", "[LTwoTuesdays$Sheet;", true)
  | 5 => ("TwoTuesdays", "told", "[I", true)
  | _ => ("TwoTuesdays", "isKept", "Z", false)
def tyX4 : Nat → FieldType := fun k => match k with
  | 0 => .object "TwoTuesdays$Town"
  | 1 => .object "TwoTuesdays$Town"
  | 2 => .object "TwoTuesdays$Town"
  | 3 => .object "TwoTuesdays$TextReader"
  | 4 => .array (.object "TwoTuesdays$Sheet")
  | 5 => .array .int
  | _ => .boolean
abbrev wsX40 : List Cond := u_ws RX4 TX4 7
theorem nmX4 : ∀ a, a < 7 → ∀ b, b < 7 → a ≠ b → (TX4 a).2.1 ≠ (TX4 b).2.1 := by decide +kernel
theorem tyX4_ok : ∀ k, k < 7 → parseFieldDescriptor (TX4 k).2.2.1 = some (tyX4 k) := by decide +kernel
abbrev cX4_init : ByteArray := prog_1_method_1_code
def yX4_init : MethodName := ⟨RX4, "<init>", "()V"⟩
abbrev cX4_prize : ByteArray := prog_1_method_2_code
def yX4_prize : MethodName := ⟨RX4, "prize", "(II)I"⟩
abbrev cX4_place : ByteArray := prog_1_method_3_code
def yX4_place : MethodName := ⟨RX4, "place", "(II)I"⟩
abbrev cX4_person : ByteArray := prog_1_method_4_code
def yX4_person : MethodName := ⟨RX4, "person", "(II)I"⟩
abbrev cX4_of : ByteArray := prog_1_method_5_code
def yX4_of : MethodName := ⟨RX4, "of", "(II)I"⟩
abbrev cX4_change : ByteArray := prog_1_method_6_code
def yX4_change : MethodName := ⟨RX4, "change", "(III)I"⟩
abbrev cX4_seen : ByteArray := prog_1_method_7_code
def yX4_seen : MethodName := ⟨RX4, "seen", "(II)I"⟩
abbrev cX4_wishes : ByteArray := prog_1_method_8_code
def yX4_wishes : MethodName := ⟨RX4, "wishes", "(II)I"⟩
abbrev cX4_go : ByteArray := prog_1_method_9_code
def yX4_go : MethodName := ⟨RX4, "go", "(I)I"⟩
abbrev cX4_now : ByteArray := prog_1_method_10_code
def yX4_now : MethodName := ⟨RX4, "now", "(I)I"⟩
abbrev cX4_ahead : ByteArray := prog_1_method_11_code
def yX4_ahead : MethodName := ⟨RX4, "ahead", "(II)I"⟩
abbrev cX4_plan : ByteArray := prog_1_method_12_code
def yX4_plan : MethodName := ⟨RX4, "plan", "(II)I"⟩
abbrev cX4_rests : ByteArray := prog_1_method_13_code
def yX4_rests : MethodName := ⟨RX4, "rests", "()I"⟩
abbrev cX4_round : ByteArray := prog_1_method_14_code
def yX4_round : MethodName := ⟨RX4, "round", "()I"⟩
abbrev cX4_meet : ByteArray := prog_1_method_15_code
def yX4_meet : MethodName := ⟨RX4, "meet", "(II)I"⟩
abbrev cX4_crowd : ByteArray := prog_1_method_16_code
def yX4_crowd : MethodName := ⟨RX4, "crowd", "(III)I"⟩
abbrev cX4_planFor : ByteArray := prog_1_method_17_code
def yX4_planFor : MethodName := ⟨RX4, "planFor", "(II)I"⟩
abbrev cX4_kindFor : ByteArray := prog_1_method_18_code
def yX4_kindFor : MethodName := ⟨RX4, "kindFor", "(II)I"⟩
abbrev cX4_looksFor : ByteArray := prog_1_method_19_code
def yX4_looksFor : MethodName := ⟨RX4, "looksFor", "(II)I"⟩
abbrev cX4_loveFor : ByteArray := prog_1_method_20_code
def yX4_loveFor : MethodName := ⟨RX4, "loveFor", "(II)I"⟩
abbrev cX4_prizeFor : ByteArray := prog_1_method_21_code
def yX4_prizeFor : MethodName := ⟨RX4, "prizeFor", "(II)I"⟩
abbrev cX4_tell : ByteArray := prog_1_method_22_code
def yX4_tell : MethodName := ⟨RX4, "tell", "(II)I"⟩
abbrev cX4_away : ByteArray := prog_1_method_23_code
def yX4_away : MethodName := ⟨RX4, "away", "()I"⟩
abbrev cX4_swapFor : ByteArray := prog_1_method_24_code
def yX4_swapFor : MethodName := ⟨RX4, "swapFor", "(I)I"⟩
abbrev cX4_fits : ByteArray := prog_1_method_25_code
def yX4_fits : MethodName := ⟨RX4, "fits", "(II)I"⟩
abbrev cX4_kinds : ByteArray := prog_1_method_26_code
def yX4_kinds : MethodName := ⟨RX4, "kinds", "(II)I"⟩
abbrev cX4_weather : ByteArray := prog_1_method_27_code
def yX4_weather : MethodName := ⟨RX4, "weather", "(I)I"⟩
abbrev cX4_odds : ByteArray := prog_1_method_28_code
def yX4_odds : MethodName := ⟨RX4, "odds", "(II)J"⟩
abbrev cX4_seed : ByteArray := prog_1_method_29_code
def yX4_seed : MethodName := ⟨RX4, "seed", "(I)I"⟩
abbrev cX4_feed : ByteArray := prog_1_method_30_code
def yX4_feed : MethodName := ⟨RX4, "feed", "(II)I"⟩
abbrev cX4_wipe : ByteArray := prog_1_method_31_code
def yX4_wipe : MethodName := ⟨RX4, "wipe", "()I"⟩
abbrev cX4_text : ByteArray := prog_1_method_32_code
def yX4_text : MethodName := ⟨RX4, "text", "()I"⟩
abbrev cX4_hold : ByteArray := prog_1_method_33_code
def yX4_hold : MethodName := ⟨RX4, "hold", "(II)I"⟩
abbrev cX4_as : ByteArray := prog_1_method_34_code
def yX4_as : MethodName := ⟨RX4, "as", "(II)I"⟩
abbrev cX4_sheet : ByteArray := prog_1_method_35_code
def yX4_sheet : MethodName := ⟨RX4, "sheet", "(III)I"⟩
abbrev cX4_write : ByteArray := prog_1_method_36_code
def yX4_write : MethodName := ⟨RX4, "write", "(III)I"⟩
abbrev cX4_copy : ByteArray := prog_1_method_37_code
def yX4_copy : MethodName := ⟨RX4, "copy", "(IIIII)I"⟩
abbrev cX4_load : ByteArray := prog_1_method_38_code
def yX4_load : MethodName := ⟨RX4, "load", "(I)I"⟩
abbrev cX4_judge : ByteArray := prog_1_method_39_code
def yX4_judge : MethodName := ⟨RX4, "judge", "(I)I"⟩
abbrev cX4_image : ByteArray := prog_1_method_40_code
def yX4_image : MethodName := ⟨RX4, "image", "()I"⟩
abbrev cX4_undo : ByteArray := prog_1_method_41_code
def yX4_undo : MethodName := ⟨RX4, "undo", "()I"⟩
abbrev cX4_tear : ByteArray := prog_1_method_42_code
def yX4_tear : MethodName := ⟨RX4, "tear", "()I"⟩
abbrev cX4_count : ByteArray := prog_1_method_43_code
def yX4_count : MethodName := ⟨RX4, "count", "(I)I"⟩
abbrev cX4_status : ByteArray := prog_1_method_44_code
def yX4_status : MethodName := ⟨RX4, "status", "(I)I"⟩
abbrev cX4_found : ByteArray := prog_1_method_45_code
def yX4_found : MethodName := ⟨RX4, "found", "(I)I"⟩
abbrev cX4_isThere : ByteArray := prog_1_method_46_code
def yX4_isThere : MethodName := ⟨RX4, "isThere", "(I)Z"⟩
abbrev cX4_richestWith : ByteArray := prog_1_method_47_code
def yX4_richestWith : MethodName := ⟨RX4, "richestWith", "(III)I"⟩
abbrev cX4_comersIfTold : ByteArray := prog_1_method_48_code
def yX4_comersIfTold : MethodName := ⟨RX4, "comersIfTold", "(II)I"⟩
abbrev cX4_goodsIfSwapped : ByteArray := prog_1_method_49_code
def yX4_goodsIfSwapped : MethodName := ⟨RX4, "goodsIfSwapped", "(III)I"⟩
abbrev cX4_fittingTraits : ByteArray := prog_1_method_50_code
def yX4_fittingTraits : MethodName := ⟨RX4, "fittingTraits", "(III)I"⟩
abbrev cX4_fitsWith : ByteArray := prog_1_method_51_code
def yX4_fitsWith : MethodName := ⟨RX4, "fitsWith", "(LTwoTuesdays$Sheet;III)Z"⟩
abbrev cX4_isWithin : ByteArray := prog_1_method_52_code
def yX4_isWithin : MethodName := ⟨RX4, "isWithin", "(III)Z"⟩
abbrev cX4_isPlace : ByteArray := prog_1_method_53_code
def yX4_isPlace : MethodName := ⟨RX4, "isPlace", "(I)Z"⟩
abbrev cX4_isKind : ByteArray := prog_1_method_54_code
def yX4_isKind : MethodName := ⟨RX4, "isKind", "(I)Z"⟩
abbrev cX4_isSpot : ByteArray := prog_1_method_55_code
def yX4_isSpot : MethodName := ⟨RX4, "isSpot", "(I)Z"⟩
abbrev cX4_isSheet : ByteArray := prog_1_method_56_code
def yX4_isSheet : MethodName := ⟨RX4, "isSheet", "(I)Z"⟩
abbrev cX4_isUnder : ByteArray := prog_1_method_57_code
def yX4_isUnder : MethodName := ⟨RX4, "isUnder", "(II)Z"⟩
abbrev cX4_shareOf : ByteArray := prog_1_method_58_code
def yX4_shareOf : MethodName := ⟨RX4, "shareOf", "(II)I"⟩
abbrev cX4_powerOf : ByteArray := prog_1_method_59_code
def yX4_powerOf : MethodName := ⟨RX4, "powerOf", "(II)J"⟩
def RX5 : String := "TwoTuesdaysModel"
def TX5 : u_T := fun k => match k with
  | 0 => ("TwoTuesdaysModel", "now", "[I", true)
  | 1 => ("TwoTuesdaysModel", "kept", "[I", true)
  | 2 => ("TwoTuesdaysModel", "aside", "[I", true)
  | 3 => ("TwoTuesdaysModel", "isKept", "Z", false)
  | 4 => ("TwoTuesdaysModel", "found", "[I", true)
  | 5 => ("TwoTuesdaysModel", "choices", "[I", true)
  | 6 => ("TwoTuesdaysModel", "gets", "[I", true)
  | 7 => ("TwoTuesdaysModel", "away", "I", false)
  | 8 => ("TwoTuesdaysModel", "tape", "[I", true)
  | 9 => ("TwoTuesdaysModel", "taped", "I", false)
  | 10 => ("TwoTuesdaysModel", "begins", "I", false)
  | 11 => ("TwoTuesdaysModel", "ends", "I", false)
  | 12 => ("TwoTuesdaysModel", "sort", "I", false)
  | 13 => ("TwoTuesdaysModel", "value", "I", false)
  | 14 => ("TwoTuesdaysModel", "isWrong", "Z", false)
  | 15 => ("TwoTuesdaysModel", "kindNames", "[Ljava/lang/String;", true)
  | 16 => ("TwoTuesdaysModel", "items", "[I", true)
  | 17 => ("TwoTuesdaysModel", "itemMany", "I", false)
  | 18 => ("TwoTuesdaysModel", "personThen", "I", false)
  | 19 => ("TwoTuesdaysModel", "widths", "[I", true)
  | 20 => ("TwoTuesdaysModel", "sizes", "[I", true)
  | 21 => ("TwoTuesdaysModel", "numbers", "[I", true)
  | _ => ("TwoTuesdaysModel", "moved", "[I", true)
def tyX5 : Nat → FieldType := fun k => match k with
  | 0 => .array .int
  | 1 => .array .int
  | 2 => .array .int
  | 3 => .boolean
  | 4 => .array .int
  | 5 => .array .int
  | 6 => .array .int
  | 7 => .int
  | 8 => .array .int
  | 9 => .int
  | 10 => .int
  | 11 => .int
  | 12 => .int
  | 13 => .int
  | 14 => .boolean
  | 15 => .array (.object "java/lang/String")
  | 16 => .array .int
  | 17 => .int
  | 18 => .int
  | 19 => .array .int
  | 20 => .array .int
  | 21 => .array .int
  | _ => .array .int
abbrev wsX50 : List Cond := u_ws RX5 TX5 23
theorem nmX5 : ∀ a, a < 23 → ∀ b, b < 23 → a ≠ b → (TX5 a).2.1 ≠ (TX5 b).2.1 := by decide +kernel
theorem tyX5_ok : ∀ k, k < 23 → parseFieldDescriptor (TX5 k).2.2.1 = some (tyX5 k) := by decide +kernel
abbrev cX5_init : ByteArray := prog_7_method_1_code
def yX5_init : MethodName := ⟨RX5, "<init>", "()V"⟩
abbrev cX5_finding : ByteArray := prog_7_method_2_code
def yX5_finding : MethodName := ⟨RX5, "finding", "(I)I"⟩
abbrev cX5_within : ByteArray := prog_7_method_3_code
def yX5_within : MethodName := ⟨RX5, "within", "(III)Z"⟩
abbrev cX5_become : ByteArray := prog_7_method_4_code
def yX5_become : MethodName := ⟨RX5, "become", "(II)I"⟩
abbrev cX5_copyRow : ByteArray := prog_7_method_5_code
def yX5_copyRow : MethodName := ⟨RX5, "copyRow", "([I[I)V"⟩
abbrev cX5_putBack : ByteArray := prog_7_method_6_code
def yX5_putBack : MethodName := ⟨RX5, "putBack", "(I)I"⟩
abbrev cX5_orNone : ByteArray := prog_7_method_7_code
def yX5_orNone : MethodName := ⟨RX5, "orNone", "(I)I"⟩
abbrev cX5_has : ByteArray := prog_7_method_8_code
def yX5_has : MethodName := ⟨RX5, "has", "(II)Z"⟩
abbrev cX5_bits : ByteArray := prog_7_method_9_code
def yX5_bits : MethodName := ⟨RX5, "bits", "(I)I"⟩
abbrev cX5_isPlace : ByteArray := prog_7_method_10_code
def yX5_isPlace : MethodName := ⟨RX5, "isPlace", "(I)Z"⟩
abbrev cX5_isPrize : ByteArray := prog_7_method_11_code
def yX5_isPrize : MethodName := ⟨RX5, "isPrize", "(I)Z"⟩
abbrev cX5_isPerson : ByteArray := prog_7_method_12_code
def yX5_isPerson : MethodName := ⟨RX5, "isPerson", "(I)Z"⟩
abbrev cX5_isKind : ByteArray := prog_7_method_13_code
def yX5_isKind : MethodName := ⟨RX5, "isKind", "(I)Z"⟩
abbrev cX5_at : ByteArray := prog_7_method_14_code
def yX5_at : MethodName := ⟨RX5, "at", "(II)I"⟩
abbrev cX5_personIs : ByteArray := prog_7_method_15_code
def yX5_personIs : MethodName := ⟨RX5, "personIs", "(II)I"⟩
abbrev cX5_prize : ByteArray := prog_7_method_16_code
def yX5_prize : MethodName := ⟨RX5, "prize", "(II)I"⟩
abbrev cX5_comes : ByteArray := prog_7_method_17_code
def yX5_comes : MethodName := ⟨RX5, "comes", "(IIII)I"⟩
abbrev cX5_person : ByteArray := prog_7_method_18_code
def yX5_person : MethodName := ⟨RX5, "person", "(II)I"⟩
abbrev cX5_planners : ByteArray := prog_7_method_19_code
def yX5_planners : MethodName := ⟨RX5, "planners", "(I)I"⟩
abbrev cX5_seenAt : ByteArray := prog_7_method_20_code
def yX5_seenAt : MethodName := ⟨RX5, "seenAt", "(II)I"⟩
abbrev cX5_canSee : ByteArray := prog_7_method_21_code
def yX5_canSee : MethodName := ⟨RX5, "canSee", "(II)Z"⟩
abbrev cX5_loverWish : ByteArray := prog_7_method_22_code
def yX5_loverWish : MethodName := ⟨RX5, "loverWish", "(III)I"⟩
abbrev cX5_wishAt : ByteArray := prog_7_method_23_code
def yX5_wishAt : MethodName := ⟨RX5, "wishAt", "(II)I"⟩
abbrev cX5_choiceOf : ByteArray := prog_7_method_24_code
def yX5_choiceOf : MethodName := ⟨RX5, "choiceOf", "(I)I"⟩
abbrev cX5_comers : ByteArray := prog_7_method_25_code
def yX5_comers : MethodName := ⟨RX5, "comers", "(I)I"⟩
abbrev cX5_looksAt : ByteArray := prog_7_method_26_code
def yX5_looksAt : MethodName := ⟨RX5, "looksAt", "()V"⟩
abbrev cX5_doesRegret : ByteArray := prog_7_method_27_code
def yX5_doesRegret : MethodName := ⟨RX5, "doesRegret", "(I)Z"⟩
abbrev cX5_place : ByteArray := prog_7_method_28_code
def yX5_place : MethodName := ⟨RX5, "place", "(II)I"⟩
abbrev cX5_of : ByteArray := prog_7_method_29_code
def yX5_of : MethodName := ⟨RX5, "of", "(II)I"⟩
abbrev cX5_mayBe : ByteArray := prog_7_method_30_code
def yX5_mayBe : MethodName := ⟨RX5, "mayBe", "(III)Z"⟩
abbrev cX5_change : ByteArray := prog_7_method_31_code
def yX5_change : MethodName := ⟨RX5, "change", "(III)I"⟩
abbrev cX5_seen : ByteArray := prog_7_method_32_code
def yX5_seen : MethodName := ⟨RX5, "seen", "(II)I"⟩
abbrev cX5_wishes : ByteArray := prog_7_method_33_code
def yX5_wishes : MethodName := ⟨RX5, "wishes", "(II)I"⟩
abbrev cX5_goes : ByteArray := prog_7_method_34_code
def yX5_goes : MethodName := ⟨RX5, "goes", "()V"⟩
abbrev cX5_goesOn : ByteArray := prog_7_method_35_code
def yX5_goesOn : MethodName := ⟨RX5, "goesOn", "(I)V"⟩
abbrev cX5_goodsAll : ByteArray := prog_7_method_36_code
def yX5_goodsAll : MethodName := ⟨RX5, "goodsAll", "()I"⟩
abbrev cX5_go : ByteArray := prog_7_method_37_code
def yX5_go : MethodName := ⟨RX5, "go", "(I)I"⟩
abbrev cX5_whoRegrets : ByteArray := prog_7_method_38_code
def yX5_whoRegrets : MethodName := ⟨RX5, "whoRegrets", "()I"⟩
abbrev cX5_comePlaces : ByteArray := prog_7_method_39_code
def yX5_comePlaces : MethodName := ⟨RX5, "comePlaces", "()I"⟩
abbrev cX5_whoMoves : ByteArray := prog_7_method_40_code
def yX5_whoMoves : MethodName := ⟨RX5, "whoMoves", "()I"⟩
abbrev cX5_richest : ByteArray := prog_7_method_41_code
def yX5_richest : MethodName := ⟨RX5, "richest", "()I"⟩
abbrev cX5_now : ByteArray := prog_7_method_42_code
def yX5_now : MethodName := ⟨RX5, "now", "(I)I"⟩
abbrev cX5_behind : ByteArray := prog_7_method_43_code
def yX5_behind : MethodName := ⟨RX5, "behind", "(II)I"⟩
abbrev cX5_isAhead : ByteArray := prog_7_method_44_code
def yX5_isAhead : MethodName := ⟨RX5, "isAhead", "(I)Z"⟩
abbrev cX5_ahead : ByteArray := prog_7_method_45_code
def yX5_ahead : MethodName := ⟨RX5, "ahead", "(II)I"⟩
abbrev cX5_plan : ByteArray := prog_7_method_46_code
def yX5_plan : MethodName := ⟨RX5, "plan", "(II)I"⟩
abbrev cX5_rests : ByteArray := prog_7_method_47_code
def yX5_rests : MethodName := ⟨RX5, "rests", "()I"⟩
abbrev cX5_arePlansAside : ByteArray := prog_7_method_48_code
def yX5_arePlansAside : MethodName := ⟨RX5, "arePlansAside", "()Z"⟩
abbrev cX5_round : ByteArray := prog_7_method_49_code
def yX5_round : MethodName := ⟨RX5, "round", "()I"⟩
abbrev cX5_doMeet : ByteArray := prog_7_method_50_code
def yX5_doMeet : MethodName := ⟨RX5, "doMeet", "(II)Z"⟩
abbrev cX5_meet : ByteArray := prog_7_method_51_code
def yX5_meet : MethodName := ⟨RX5, "meet", "(II)I"⟩
abbrev cX5_crowd : ByteArray := prog_7_method_52_code
def yX5_crowd : MethodName := ⟨RX5, "crowd", "(III)I"⟩
abbrev cX5_bestFor : ByteArray := prog_7_method_53_code
def yX5_bestFor : MethodName := ⟨RX5, "bestFor", "(IIIII)I"⟩
abbrev cX5_isTried : ByteArray := prog_7_method_54_code
def yX5_isTried : MethodName := ⟨RX5, "isTried", "(II)Z"⟩
abbrev cX5_planFor : ByteArray := prog_7_method_55_code
def yX5_planFor : MethodName := ⟨RX5, "planFor", "(II)I"⟩
abbrev cX5_kindFor : ByteArray := prog_7_method_56_code
def yX5_kindFor : MethodName := ⟨RX5, "kindFor", "(II)I"⟩
abbrev cX5_looksFor : ByteArray := prog_7_method_57_code
def yX5_looksFor : MethodName := ⟨RX5, "looksFor", "(II)I"⟩
abbrev cX5_loveFor : ByteArray := prog_7_method_58_code
def yX5_loveFor : MethodName := ⟨RX5, "loveFor", "(II)I"⟩
abbrev cX5_manyNow : ByteArray := prog_7_method_59_code
def yX5_manyNow : MethodName := ⟨RX5, "manyNow", "(I)I"⟩
abbrev cX5_prizeFor : ByteArray := prog_7_method_60_code
def yX5_prizeFor : MethodName := ⟨RX5, "prizeFor", "(II)I"⟩
abbrev cX5_manyIfTold : ByteArray := prog_7_method_61_code
def yX5_manyIfTold : MethodName := ⟨RX5, "manyIfTold", "(II)I"⟩
abbrev cX5_tell : ByteArray := prog_7_method_62_code
def yX5_tell : MethodName := ⟨RX5, "tell", "(II)I"⟩
abbrev cX5_goodsWithout : ByteArray := prog_7_method_63_code
def yX5_goodsWithout : MethodName := ⟨RX5, "goodsWithout", "(I)I"⟩
abbrev cX5_away : ByteArray := prog_7_method_64_code
def yX5_away : MethodName := ⟨RX5, "away", "()I"⟩
abbrev cX5_goodsSwapped : ByteArray := prog_7_method_65_code
def yX5_goodsSwapped : MethodName := ⟨RX5, "goodsSwapped", "(III)I"⟩
abbrev cX5_swapFor : ByteArray := prog_7_method_66_code
def yX5_swapFor : MethodName := ⟨RX5, "swapFor", "(I)I"⟩
abbrev cX5_lacks : ByteArray := prog_7_method_67_code
def yX5_lacks : MethodName := ⟨RX5, "lacks", "(I)I"⟩
abbrev cX5_wentSo : ByteArray := prog_7_method_68_code
def yX5_wentSo : MethodName := ⟨RX5, "wentSo", "(II)Z"⟩
abbrev cX5_fitting : ByteArray := prog_7_method_69_code
def yX5_fitting : MethodName := ⟨RX5, "fitting", "(IIII)I"⟩
abbrev cX5_fits : ByteArray := prog_7_method_70_code
def yX5_fits : MethodName := ⟨RX5, "fits", "(II)I"⟩
abbrev cX5_kinds : ByteArray := prog_7_method_71_code
def yX5_kinds : MethodName := ⟨RX5, "kinds", "(II)I"⟩
abbrev cX5_drawn : ByteArray := prog_7_method_72_code
def yX5_drawn : MethodName := ⟨RX5, "drawn", "()I"⟩
abbrev cX5_weather : ByteArray := prog_7_method_73_code
def yX5_weather : MethodName := ⟨RX5, "weather", "(I)I"⟩
abbrev cX5_odds : ByteArray := prog_7_method_74_code
def yX5_odds : MethodName := ⟨RX5, "odds", "(II)J"⟩
abbrev cX5_seed : ByteArray := prog_7_method_75_code
def yX5_seed : MethodName := ⟨RX5, "seed", "(I)I"⟩
abbrev cX5_feed : ByteArray := prog_7_method_76_code
def yX5_feed : MethodName := ⟨RX5, "feed", "(II)I"⟩
abbrev cX5_wipe : ByteArray := prog_7_method_77_code
def yX5_wipe : MethodName := ⟨RX5, "wipe", "()I"⟩
abbrev cX5_byteAt : ByteArray := prog_7_method_78_code
def yX5_byteAt : MethodName := ⟨RX5, "byteAt", "(I)I"⟩
abbrev cX5_next : ByteArray := prog_7_method_79_code
def yX5_next : MethodName := ⟨RX5, "next", "()V"⟩
abbrev cX5_isWord : ByteArray := prog_7_method_80_code
def yX5_isWord : MethodName := ⟨RX5, "isWord", "(Ljava/lang/String;)Z"⟩
abbrev cX5_must : ByteArray := prog_7_method_81_code
def yX5_must : MethodName := ⟨RX5, "must", "(Z)V"⟩
abbrev cX5_number : ByteArray := prog_7_method_82_code
def yX5_number : MethodName := ⟨RX5, "number", "(II)I"⟩
abbrev cX5_addItem : ByteArray := prog_7_method_83_code
def yX5_addItem : MethodName := ⟨RX5, "addItem", "(IIII)V"⟩
abbrev cX5_kindTold : ByteArray := prog_7_method_84_code
def yX5_kindTold : MethodName := ⟨RX5, "kindTold", "()I"⟩
abbrev cX5_afterWord : ByteArray := prog_7_method_85_code
def yX5_afterWord : MethodName := ⟨RX5, "afterWord", "(Ljava/lang/String;II)I"⟩
abbrev cX5_readItem : ByteArray := prog_7_method_86_code
def yX5_readItem : MethodName := ⟨RX5, "readItem", "()V"⟩
abbrev cX5_isToldSo : ByteArray := prog_7_method_87_code
def yX5_isToldSo : MethodName := ⟨RX5, "isToldSo", "(I)I"⟩
abbrev cX5_text : ByteArray := prog_7_method_88_code
def yX5_text : MethodName := ⟨RX5, "text", "()I"⟩
abbrev cX5_isSpot : ByteArray := prog_7_method_89_code
def yX5_isSpot : MethodName := ⟨RX5, "isSpot", "(I)Z"⟩
abbrev cX5_hold : ByteArray := prog_7_method_90_code
def yX5_hold : MethodName := ⟨RX5, "hold", "(II)I"⟩
abbrev cX5_as : ByteArray := prog_7_method_91_code
def yX5_as : MethodName := ⟨RX5, "as", "(II)I"⟩
abbrev cX5_isSheet : ByteArray := prog_7_method_92_code
def yX5_isSheet : MethodName := ⟨RX5, "isSheet", "(I)Z"⟩
abbrev cX5_cutTo : ByteArray := prog_7_method_93_code
def yX5_cutTo : MethodName := ⟨RX5, "cutTo", "(II)I"⟩
abbrev cX5_sheet : ByteArray := prog_7_method_94_code
def yX5_sheet : MethodName := ⟨RX5, "sheet", "(III)I"⟩
abbrev cX5_write : ByteArray := prog_7_method_95_code
def yX5_write : MethodName := ⟨RX5, "write", "(III)I"⟩
abbrev cX5_copy : ByteArray := prog_7_method_96_code
def yX5_copy : MethodName := ⟨RX5, "copy", "(IIIII)I"⟩
abbrev cX5_above : ByteArray := prog_7_method_97_code
def yX5_above : MethodName := ⟨RX5, "above", "(I)I"⟩
abbrev cX5_isUnder : ByteArray := prog_7_method_98_code
def yX5_isUnder : MethodName := ⟨RX5, "isUnder", "(II)Z"⟩
abbrev cX5_load : ByteArray := prog_7_method_99_code
def yX5_load : MethodName := ⟨RX5, "load", "(I)I"⟩
abbrev cX5_judge : ByteArray := prog_7_method_100_code
def yX5_judge : MethodName := ⟨RX5, "judge", "(I)I"⟩
abbrev cX5_image : ByteArray := prog_7_method_101_code
def yX5_image : MethodName := ⟨RX5, "image", "()I"⟩
abbrev cX5_undo : ByteArray := prog_7_method_102_code
def yX5_undo : MethodName := ⟨RX5, "undo", "()I"⟩
abbrev cX5_tear : ByteArray := prog_7_method_103_code
def yX5_tear : MethodName := ⟨RX5, "tear", "()I"⟩
abbrev cX5_count : ByteArray := prog_7_method_104_code
def yX5_count : MethodName := ⟨RX5, "count", "(I)I"⟩
abbrev cX5_status : ByteArray := prog_7_method_105_code
def yX5_status : MethodName := ⟨RX5, "status", "(I)I"⟩
def RJx145de : String := "java/io/Serializable"
def TJx145de : u_T := fun k => match k with
  | _ => ("", "", "", false)
def tyJx145de : Nat → FieldType := fun k => match k with
  | _ => .int
abbrev wsJx145de0 : List Cond := u_ws RJx145de TJx145de 0
theorem nmJx145de : ∀ a, a < 0 → ∀ b, b < 0 → a ≠ b → (TJx145de a).2.1 ≠ (TJx145de b).2.1 := by decide +kernel
theorem tyJx145de_ok : ∀ k, k < 0 → parseFieldDescriptor (TJx145de k).2.2.1 = some (tyJx145de k) := by decide +kernel
def RJx9f9b0 : String := "java/lang/CharSequence"
def TJx9f9b0 : u_T := fun k => match k with
  | _ => ("", "", "", false)
def tyJx9f9b0 : Nat → FieldType := fun k => match k with
  | _ => .int
abbrev wsJx9f9b00 : List Cond := u_ws RJx9f9b0 TJx9f9b0 0
theorem nmJx9f9b0 : ∀ a, a < 0 → ∀ b, b < 0 → a ≠ b → (TJx9f9b0 a).2.1 ≠ (TJx9f9b0 b).2.1 := by decide +kernel
theorem tyJx9f9b0_ok : ∀ k, k < 0 → parseFieldDescriptor (TJx9f9b0 k).2.2.1 = some (tyJx9f9b0 k) := by decide +kernel
def RJxb160c : String := "java/lang/Comparable"
def TJxb160c : u_T := fun k => match k with
  | _ => ("", "", "", false)
def tyJxb160c : Nat → FieldType := fun k => match k with
  | _ => .int
abbrev wsJxb160c0 : List Cond := u_ws RJxb160c TJxb160c 0
theorem nmJxb160c : ∀ a, a < 0 → ∀ b, b < 0 → a ≠ b → (TJxb160c a).2.1 ≠ (TJxb160c b).2.1 := by decide +kernel
theorem tyJxb160c_ok : ∀ k, k < 0 → parseFieldDescriptor (TJxb160c k).2.2.1 = some (tyJxb160c k) := by decide +kernel
def RJ6 : String := "java/lang/Integer"
def TJ6 : u_T := fun k => match k with
  | _ => ("", "", "", false)
def tyJ6 : Nat → FieldType := fun k => match k with
  | _ => .int
abbrev wsJ60 : List Cond := u_ws RJ6 TJ6 0
theorem nmJ6 : ∀ a, a < 0 → ∀ b, b < 0 → a ≠ b → (TJ6 a).2.1 ≠ (TJ6 b).2.1 := by decide +kernel
theorem tyJ6_ok : ∀ k, k < 0 → parseFieldDescriptor (TJ6 k).2.2.1 = some (tyJ6 k) := by decide +kernel
abbrev cJ6_bitCount_0f7a4 : ByteArray := prog_8_method_49_code
def yJ6_bitCount_0f7a4 : MethodName := ⟨RJ6, "bitCount", "(I)I"⟩
def RJ9 : String := "java/lang/Math"
def TJ9 : u_T := fun k => match k with
  | _ => ("", "", "", false)
def tyJ9 : Nat → FieldType := fun k => match k with
  | _ => .int
abbrev wsJ90 : List Cond := u_ws RJ9 TJ9 0
theorem nmJ9 : ∀ a, a < 0 → ∀ b, b < 0 → a ≠ b → (TJ9 a).2.1 ≠ (TJ9 b).2.1 := by decide +kernel
theorem tyJ9_ok : ∀ k, k < 0 → parseFieldDescriptor (TJ9 k).2.2.1 = some (tyJ9 k) := by decide +kernel
abbrev cJ9_abs_0f7a4 : ByteArray := prog_9_method_59_code
def yJ9_abs_0f7a4 : MethodName := ⟨RJ9, "abs", "(I)I"⟩
abbrev cJ9_max_7cf53 : ByteArray := prog_9_method_65_code
def yJ9_max_7cf53 : MethodName := ⟨RJ9, "max", "(II)I"⟩
abbrev cJ9_min_7cf53 : ByteArray := prog_9_method_69_code
def yJ9_min_7cf53 : MethodName := ⟨RJ9, "min", "(II)I"⟩
def RJ0 : String := "java/lang/String"
def TJ0 : u_T := fun k => match k with
  | _ => ("", "", "", false)
def tyJ0 : Nat → FieldType := fun k => match k with
  | _ => .int
abbrev wsJ00 : List Cond := u_ws RJ0 TJ0 0
theorem nmJ0 : ∀ a, a < 0 → ∀ b, b < 0 → a ≠ b → (TJ0 a).2.1 ≠ (TJ0 b).2.1 := by decide +kernel
theorem tyJ0_ok : ∀ k, k < 0 → parseFieldDescriptor (TJ0 k).2.2.1 = some (tyJ0 k) := by decide +kernel
abbrev cJ0_length_8abf5 : ByteArray := prog_10_method_54_code
def yJ0_length_8abf5 : MethodName := ⟨RJ0, "length", "()I"⟩
abbrev cJ0_charAt_5068e : ByteArray := prog_10_method_56_code
def yJ0_charAt_5068e : MethodName := ⟨RJ0, "charAt", "(I)C"⟩
abbrev cJ0_coder_7d493 : ByteArray := prog_10_method_152_code
def yJ0_coder_7d493 : MethodName := ⟨RJ0, "coder", "()B"⟩
abbrev cJ0_isLatin1_aae02 : ByteArray := prog_10_method_154_code
def yJ0_isLatin1_aae02 : MethodName := ⟨RJ0, "isLatin1", "()Z"⟩
abbrev cJ0_checkIndex_df160 : ByteArray := prog_10_method_155_code
def yJ0_checkIndex_df160 : MethodName := ⟨RJ0, "checkIndex", "(II)V"⟩
def RJ1 : String := "java/lang/StringLatin1"
def TJ1 : u_T := fun k => match k with
  | _ => ("", "", "", false)
def tyJ1 : Nat → FieldType := fun k => match k with
  | _ => .int
abbrev wsJ10 : List Cond := u_ws RJ1 TJ1 0
theorem nmJ1 : ∀ a, a < 0 → ∀ b, b < 0 → a ≠ b → (TJ1 a).2.1 ≠ (TJ1 b).2.1 := by decide +kernel
theorem tyJ1_ok : ∀ k, k < 0 → parseFieldDescriptor (TJ1 k).2.2.1 = some (tyJ1 k) := by decide +kernel
abbrev cJ1_charAt_3b067 : ByteArray := prog_11_method_2_code
def yJ1_charAt_3b067 : MethodName := ⟨RJ1, "charAt", "([BI)C"⟩
def RJ2 : String := "java/lang/StringUTF16"
def TJ2 : u_T := fun k => match k with
  | _ => ("", "", "", false)
def tyJ2 : Nat → FieldType := fun k => match k with
  | _ => .int
abbrev wsJ20 : List Cond := u_ws RJ2 TJ2 0
theorem nmJ2 : ∀ a, a < 0 → ∀ b, b < 0 → a ≠ b → (TJ2 a).2.1 ≠ (TJ2 b).2.1 := by decide +kernel
theorem tyJ2_ok : ∀ k, k < 0 → parseFieldDescriptor (TJ2 k).2.2.1 = some (tyJ2 k) := by decide +kernel
abbrev cJ2_getChar_3b067 : ByteArray := prog_12_method_5_code
def yJ2_getChar_3b067 : MethodName := ⟨RJ2, "getChar", "([BI)C"⟩
abbrev cJ2_length_9d52b : ByteArray := prog_12_method_6_code
def yJ2_length_9d52b : MethodName := ⟨RJ2, "length", "([B)I"⟩
abbrev cJ2_charAt_3b067 : ByteArray := prog_12_method_83_code
def yJ2_charAt_3b067 : MethodName := ⟨RJ2, "charAt", "([BI)C"⟩
abbrev cJ2_checkIndex_2214a : ByteArray := prog_12_method_91_code
def yJ2_checkIndex_2214a : MethodName := ⟨RJ2, "checkIndex", "(I[B)V"⟩
def RJ10 : String := "java/lang/System"
def TJ10 : u_T := fun k => match k with
  | _ => ("", "", "", false)
def tyJ10 : Nat → FieldType := fun k => match k with
  | _ => .int
abbrev wsJ100 : List Cond := u_ws RJ10 TJ10 0
theorem nmJ10 : ∀ a, a < 0 → ∀ b, b < 0 → a ≠ b → (TJ10 a).2.1 ≠ (TJ10 b).2.1 := by decide +kernel
theorem tyJ10_ok : ∀ k, k < 0 → parseFieldDescriptor (TJ10 k).2.2.1 = some (tyJ10 k) := by decide +kernel
def RJxfd54e : String := "java/lang/constant/Constable"
def TJxfd54e : u_T := fun k => match k with
  | _ => ("", "", "", false)
def tyJxfd54e : Nat → FieldType := fun k => match k with
  | _ => .int
abbrev wsJxfd54e0 : List Cond := u_ws RJxfd54e TJxfd54e 0
theorem nmJxfd54e : ∀ a, a < 0 → ∀ b, b < 0 → a ≠ b → (TJxfd54e a).2.1 ≠ (TJxfd54e b).2.1 := by decide +kernel
theorem tyJxfd54e_ok : ∀ k, k < 0 → parseFieldDescriptor (TJxfd54e k).2.2.1 = some (tyJxfd54e k) := by decide +kernel
def RJx3cf43 : String := "java/lang/constant/ConstantDesc"
def TJx3cf43 : u_T := fun k => match k with
  | _ => ("", "", "", false)
def tyJx3cf43 : Nat → FieldType := fun k => match k with
  | _ => .int
abbrev wsJx3cf430 : List Cond := u_ws RJx3cf43 TJx3cf43 0
theorem nmJx3cf43 : ∀ a, a < 0 → ∀ b, b < 0 → a ≠ b → (TJx3cf43 a).2.1 ≠ (TJx3cf43 b).2.1 := by decide +kernel
theorem tyJx3cf43_ok : ∀ k, k < 0 → parseFieldDescriptor (TJx3cf43 k).2.2.1 = some (tyJx3cf43 k) := by decide +kernel
def RJ7 : String := "java/util/Arrays"
def TJ7 : u_T := fun k => match k with
  | _ => ("", "", "", false)
def tyJ7 : Nat → FieldType := fun k => match k with
  | _ => .int
abbrev wsJ70 : List Cond := u_ws RJ7 TJ7 0
theorem nmJ7 : ∀ a, a < 0 → ∀ b, b < 0 → a ≠ b → (TJ7 a).2.1 ≠ (TJ7 b).2.1 := by decide +kernel
theorem tyJ7_ok : ∀ k, k < 0 → parseFieldDescriptor (TJ7 k).2.2.1 = some (tyJ7 k) := by decide +kernel
abbrev cJ7_fill_53178 : ByteArray := prog_14_method_103_code
def yJ7_fill_53178 : MethodName := ⟨RJ7, "fill", "([II)V"⟩
def RJ3 : String := "jdk/internal/util/Preconditions"
def TJ3 : u_T := fun k => match k with
  | _ => ("", "", "", false)
def tyJ3 : Nat → FieldType := fun k => match k with
  | _ => .int
abbrev wsJ30 : List Cond := u_ws RJ3 TJ3 0
theorem nmJ3 : ∀ a, a < 0 → ∀ b, b < 0 → a ≠ b → (TJ3 a).2.1 ≠ (TJ3 b).2.1 := by decide +kernel
theorem tyJ3_ok : ∀ k, k < 0 → parseFieldDescriptor (TJ3 k).2.2.1 = some (tyJ3 k) := by decide +kernel
abbrev cJ3_checkIndex_8e157 : ByteArray := prog_15_method_11_code
def yJ3_checkIndex_8e157 : MethodName := ⟨RJ3, "checkIndex", "(IILjava/util/function/BiFunction;)I"⟩
def RL : String := "TwoTuesdaysLaw"
abbrev cL_law : ByteArray := code
def yL_law : MethodName := ⟨RL, "law", "([I)Z"⟩
def wsL_law_r1 : List Cond := [Cond.classLink RL 7 RX4, Cond.instantiable RX4 7, Cond.initialized RX4, Cond.classLink RL 10 RX5, Cond.instantiable RX5 23, Cond.initialized RX5, Cond.methodLink RL 9 yX4_init, Cond.instanceMethod yX4_init, Cond.code yX4_init cX4_init 2 none, Cond.methodLink RX4 3 objectInit, Cond.instanceMethod objectInit, Cond.code objectInit ⟨#[0xb1]⟩ 1 none, Cond.classLink RX4 9 RX3, Cond.instantiable RX3 13, Cond.initialized RX3, Cond.fieldLink RX4 12 "TwoTuesdays" "town" "LTwoTuesdays$Town;", Cond.fieldLink RX4 16 "TwoTuesdays" "kept" "LTwoTuesdays$Town;", Cond.fieldLink RX4 19 "TwoTuesdays" "trial" "LTwoTuesdays$Town;", Cond.classLink RX4 22 RX2, Cond.instantiable RX2 4, Cond.initialized RX2, Cond.fieldLink RX4 25 "TwoTuesdays" "reader" "LTwoTuesdays$TextReader;", Cond.classLink RX4 29 RX0, Cond.fieldLink RX4 31 "TwoTuesdays" "sheets" "[LTwoTuesdays$Sheet;"]
def wsL_law_r2 : List Cond := [Cond.instantiable RX0 3, Cond.initialized RX0, Cond.arrayClass .int, Cond.fieldLink RX4 36 "TwoTuesdays" "told" "[I", Cond.fieldLink RX4 40 "TwoTuesdays" "isKept" "Z", Cond.methodLink RX4 11 yX3_init, Cond.instanceMethod yX3_init, Cond.code yX3_init cX3_init 1 none, Cond.methodLink RX3 3 objectInit, Cond.fieldLink RX3 9 "TwoTuesdays$Town" "prizeAt" "[I", Cond.fieldLink RX3 15 "TwoTuesdays$Town" "kindOf" "[I", Cond.fieldLink RX3 18 "TwoTuesdays$Town" "planOf" "[I", Cond.fieldLink RX3 21 "TwoTuesdays$Town" "looksOf" "[I", Cond.fieldLink RX3 24 "TwoTuesdays$Town" "loveOf" "[I", Cond.fieldLink RX3 27 "TwoTuesdays$Town" "goodsOf" "[I", Cond.fieldLink RX3 30 "TwoTuesdays$Town" "heldAt" "[I", Cond.fieldLink RX3 33 "TwoTuesdays$Town" "plannedAt" "[I", Cond.fieldLink RX3 36 "TwoTuesdays$Town" "choiceOf" "[I", Cond.fieldLink RX3 39 "TwoTuesdays$Town" "chosenAt" "[I", Cond.fieldLink RX3 48 "TwoTuesdays$Town" "people" "I", Cond.fieldLink RX3 52 "TwoTuesdays$Town" "tuesday" "I", Cond.fieldLink RX3 55 "TwoTuesdays$Town" "z" "I", Cond.methodLink RX3 42 yJ7_fill_53178, Cond.static yJ7_fill_53178]
def wsL_law_r3 : List Cond := [Cond.initialized RJ7, Cond.code yJ7_fill_53178 cJ7_fill_53178 4 none, Cond.instanceMethod yX2_init, Cond.code yX2_init cX2_init 1 none, Cond.methodLink RX2 3 objectInit, Cond.classLink RX2 9 RX1, Cond.instantiable RX1 6, Cond.initialized RX1, Cond.fieldLink RX2 12 "TwoTuesdays$TextReader" "tape" "LTwoTuesdays$Tape;", Cond.classLink RX2 18 RX3, Cond.fieldLink RX2 21 "TwoTuesdays$TextReader" "draft" "LTwoTuesdays$Town;", Cond.instanceMethod yX1_init, Cond.code yX1_init cX1_init 1 none, Cond.methodLink RX1 3 objectInit, Cond.fieldLink RX1 9 "TwoTuesdays$Tape" "bytes" "[I", Cond.methodLink RX2 20 yX3_init, Cond.instanceMethod yX0_init, Cond.code yX0_init cX0_init 1 none, Cond.methodLink RX0 3 objectInit, Cond.fieldLink RX0 9 "TwoTuesdays$Sheet" "numbers" "[I", Cond.methodLink RL 12 yX5_init, Cond.instanceMethod yX5_init, Cond.code yX5_init cX5_init 2 none, Cond.methodLink RX5 1 objectInit]
def wsL_law_r4 : List Cond := [Cond.fieldLink RX5 9 "TwoTuesdaysModel" "now" "[I", Cond.fieldLink RX5 13 "TwoTuesdaysModel" "kept" "[I", Cond.fieldLink RX5 16 "TwoTuesdaysModel" "aside" "[I", Cond.fieldLink RX5 19 "TwoTuesdaysModel" "found" "[I", Cond.fieldLink RX5 22 "TwoTuesdaysModel" "choices" "[I", Cond.fieldLink RX5 25 "TwoTuesdaysModel" "gets" "[I", Cond.fieldLink RX5 28 "TwoTuesdaysModel" "away" "I", Cond.fieldLink RX5 32 "TwoTuesdaysModel" "tape" "[I", Cond.classLink RX5 35 RJ0, Cond.fieldLink RX5 51 "TwoTuesdaysModel" "kindNames" "[Ljava/lang/String;", Cond.fieldLink RX5 55 "TwoTuesdaysModel" "items" "[I", Cond.fieldLink RX5 58 "TwoTuesdaysModel" "widths" "[I", Cond.fieldLink RX5 61 "TwoTuesdaysModel" "sizes" "[I", Cond.fieldLink RX5 64 "TwoTuesdaysModel" "numbers" "[I", Cond.fieldLink RX5 67 "TwoTuesdaysModel" "moved" "[I", Cond.methodLink RL 13 yX4_prize, Cond.instanceMethod yX4_prize, Cond.selects RX4 yX4_prize yX4_prize, Cond.code yX4_prize cX4_prize 4 (some .int), Cond.constant RX4 52 (-1000001), Cond.fieldLink RX4 57 "TwoTuesdays$Town" "prizeAt" "[I", Cond.methodLink RX4 44 yX4_isPlace, Cond.static yX4_isPlace, Cond.code yX4_isPlace cX4_isPlace 1 (some .boolean)]
def wsL_law_r5 : List Cond := [Cond.methodLink RX4 48 yX4_isWithin, Cond.static yX4_isWithin, Cond.code yX4_isWithin cX4_isWithin 3 (some .boolean), Cond.methodLink RX4 53 yX4_found, Cond.instanceMethod yX4_found, Cond.selects RX4 yX4_found yX4_found, Cond.code yX4_found cX4_found 3 (some .int), Cond.methodLink RL 17 yX5_prize, Cond.instanceMethod yX5_prize, Cond.selects RX5 yX5_prize yX5_prize, Cond.code yX5_prize cX5_prize 3 (some .int), Cond.constant RX5 70 (-1000001), Cond.methodLink RX5 88 yX5_isPlace, Cond.static yX5_isPlace, Cond.code yX5_isPlace cX5_isPlace 1 (some .boolean), Cond.methodLink RX5 80 yX5_within, Cond.static yX5_within, Cond.code yX5_within cX5_within 3 (some .boolean), Cond.methodLink RX5 92 yX5_isPrize, Cond.static yX5_isPrize, Cond.code yX5_isPrize cX5_isPrize 1 (some .boolean), Cond.methodLink RX5 95 yX5_become, Cond.instanceMethod yX5_become, Cond.selects RX5 yX5_become yX5_become]
def wsL_law_r6 : List Cond := [Cond.code yX5_become cX5_become 4 (some .int), Cond.methodLink RX5 76 yX5_finding, Cond.instanceMethod yX5_finding, Cond.selects RX5 yX5_finding yX5_finding, Cond.code yX5_finding cX5_finding 2 (some .int), Cond.methodLink RL 18 yX4_place, Cond.instanceMethod yX4_place, Cond.selects RX4 yX4_place yX4_place, Cond.code yX4_place cX4_place 3 (some .int), Cond.methodLink RX4 60 yX3_settle, Cond.instanceMethod yX3_settle, Cond.selects RX3 yX3_settle yX3_settle, Cond.code yX3_settle cX3_settle 3 none, Cond.methodLink RX3 76 yX3_bestPlaceFor, Cond.instanceMethod yX3_bestPlaceFor, Cond.selects RX3 yX3_bestPlaceFor yX3_bestPlaceFor, Cond.code yX3_bestPlaceFor cX3_bestPlaceFor 8 (some .int), Cond.methodLink RX3 84 Lib.Math.min.name, Cond.static Lib.Math.min.name, Cond.initialized "java/lang/Math", Cond.code Lib.Math.min.name Lib.Math.min.code 2 (some .int), Cond.methodLink RX3 89 Lib.Math.max.name, Cond.static Lib.Math.max.name, Cond.code Lib.Math.max.name Lib.Math.max.code 2 (some .int)]
def wsL_law_r7 : List Cond := [Cond.methodLink RX3 80 yX3_wishAt, Cond.instanceMethod yX3_wishAt, Cond.selects RX3 yX3_wishAt yX3_wishAt, Cond.code yX3_wishAt cX3_wishAt 9 (some .int), Cond.methodLink RX4 63 yX3_plannersOf, Cond.instanceMethod yX3_plannersOf, Cond.selects RX3 yX3_plannersOf yX3_plannersOf, Cond.code yX3_plannersOf cX3_plannersOf 4 (some .int), Cond.methodLink RX4 66 yX3_choosersOf, Cond.instanceMethod yX3_choosersOf, Cond.selects RX3 yX3_choosersOf yX3_choosersOf, Cond.code yX3_choosersOf cX3_choosersOf 4 (some .int), Cond.methodLink RL 21 yX5_place, Cond.instanceMethod yX5_place, Cond.selects RX5 yX5_place yX5_place, Cond.code yX5_place cX5_place 3 (some .int), Cond.methodLink RX5 140 yX5_looksAt, Cond.instanceMethod yX5_looksAt, Cond.selects RX5 yX5_looksAt yX5_looksAt, Cond.code yX5_looksAt cX5_looksAt 2 none, Cond.methodLink RX5 134 yX5_choiceOf, Cond.instanceMethod yX5_choiceOf, Cond.selects RX5 yX5_choiceOf yX5_choiceOf, Cond.code yX5_choiceOf cX5_choiceOf 5 (some .int)]
def wsL_law_r8 : List Cond := [Cond.methodLink RX5 106 yX5_personIs, Cond.instanceMethod yX5_personIs, Cond.selects RX5 yX5_personIs yX5_personIs, Cond.code yX5_personIs cX5_personIs 3 (some .int), Cond.methodLink RX5 84 yX5_at, Cond.static yX5_at, Cond.code yX5_at cX5_at 2 (some .int), Cond.methodLink RX5 127 yX5_wishAt, Cond.instanceMethod yX5_wishAt, Cond.selects RX5 yX5_wishAt yX5_wishAt, Cond.code yX5_wishAt cX5_wishAt 5 (some .int), Cond.methodLink RX5 120 yX5_seenAt, Cond.instanceMethod yX5_seenAt, Cond.selects RX5 yX5_seenAt yX5_seenAt, Cond.code yX5_seenAt cX5_seenAt 3 (some .int), Cond.methodLink RX5 109 yX5_planners, Cond.instanceMethod yX5_planners, Cond.selects RX5 yX5_planners yX5_planners, Cond.code yX5_planners cX5_planners 4 (some .int), Cond.methodLink RX5 112 yX5_bits, Cond.static yX5_bits, Cond.code yX5_bits cX5_bits 3 (some .int), Cond.methodLink RX5 123 yX5_loverWish, Cond.instanceMethod yX5_loverWish]
def wsL_law_r9 : List Cond := [Cond.selects RX5 yX5_loverWish yX5_loverWish, Cond.code yX5_loverWish cX5_loverWish 6 (some .int), Cond.methodLink RX5 130 yX5_canSee, Cond.instanceMethod yX5_canSee, Cond.selects RX5 yX5_canSee yX5_canSee, Cond.code yX5_canSee cX5_canSee 3 (some .boolean), Cond.methodLink RX5 115 Lib.Math.abs.name, Cond.static Lib.Math.abs.name, Cond.code Lib.Math.abs.name Lib.Math.abs.code 1 (some .int), Cond.methodLink RX5 137 yX5_comers, Cond.instanceMethod yX5_comers, Cond.selects RX5 yX5_comers yX5_comers, Cond.code yX5_comers cX5_comers 4 (some .int), Cond.methodLink RL 22 yX4_person, Cond.instanceMethod yX4_person, Cond.selects RX4 yX4_person yX4_person, Cond.code yX4_person cX4_person 4 (some .int), Cond.constant RX4 76 (-1000002), Cond.methodLink RX4 69 yX4_isKind, Cond.static yX4_isKind, Cond.code yX4_isKind cX4_isKind 1 (some .boolean), Cond.methodLink RX4 72 yX3_addOne, Cond.instanceMethod yX3_addOne, Cond.selects RX3 yX3_addOne yX3_addOne]
def wsL_law_r10 : List Cond := [Cond.code yX3_addOne cX3_addOne 4 (some .int), Cond.methodLink RL 25 yX5_person, Cond.instanceMethod yX5_person, Cond.selects RX5 yX5_person yX5_person, Cond.code yX5_person cX5_person 3 (some .int), Cond.constant RX5 101 (-1000002), Cond.methodLink RX5 98 yX5_isKind, Cond.static yX5_isKind, Cond.code yX5_isKind cX5_isKind 1 (some .boolean), Cond.methodLink RX5 102 yX5_comes, Cond.instanceMethod yX5_comes, Cond.selects RX5 yX5_comes yX5_comes, Cond.code yX5_comes cX5_comes 6 (some .int), Cond.methodLink RL 26 yX4_of, Cond.instanceMethod yX4_of, Cond.selects RX4 yX4_of yX4_of, Cond.code yX4_of cX4_of 3 (some .int), Cond.fieldLink RX4 83 "TwoTuesdays$Town" "choiceOf" "[I", Cond.methodLink RX4 77 yX4_isThere, Cond.instanceMethod yX4_isThere, Cond.selects RX4 yX4_isThere yX4_isThere, Cond.code yX4_isThere cX4_isThere 2 (some .boolean), Cond.fieldLink RX4 165 "TwoTuesdays$Town" "people" "I", Cond.methodLink RX4 80 yX3_traitOf]
def wsL_law_r11 : List Cond := [Cond.instanceMethod yX3_traitOf, Cond.selects RX3 yX3_traitOf yX3_traitOf, Cond.code yX3_traitOf cX3_traitOf 3 (some .int), Cond.methodLink RX4 86 yX3_getsNow, Cond.instanceMethod yX3_getsNow, Cond.selects RX3 yX3_getsNow yX3_getsNow, Cond.code yX3_getsNow cX3_getsNow 3 (some .int), Cond.static yX4_shareOf, Cond.code yX4_shareOf cX4_shareOf 2 (some .int), Cond.methodLink RX4 89 yX3_regretsNow, Cond.instanceMethod yX3_regretsNow, Cond.selects RX3 yX3_regretsNow yX3_regretsNow, Cond.code yX3_regretsNow cX3_regretsNow 4 (some .boolean), Cond.methodLink RX3 98 yX3_getsNow, Cond.methodLink RL 29 yX5_of, Cond.instanceMethod yX5_of, Cond.selects RX5 yX5_of yX5_of, Cond.code yX5_of cX5_of 3 (some .int), Cond.methodLink RX5 143 yX5_isPerson, Cond.instanceMethod yX5_isPerson, Cond.selects RX5 yX5_isPerson yX5_isPerson, Cond.code yX5_isPerson cX5_isPerson 2 (some .boolean), Cond.methodLink RX5 146 yX5_doesRegret, Cond.instanceMethod yX5_doesRegret]
def wsL_law_r12 : List Cond := [Cond.selects RX5 yX5_doesRegret yX5_doesRegret, Cond.code yX5_doesRegret cX5_doesRegret 4 (some .boolean), Cond.methodLink RL 30 yX4_change, Cond.instanceMethod yX4_change, Cond.selects RX4 yX4_change yX4_change, Cond.code yX4_change cX4_change 5 (some .int), Cond.methodLink RX4 92 yX3_mayBecome, Cond.instanceMethod yX3_mayBecome, Cond.selects RX3 yX3_mayBecome yX3_mayBecome, Cond.code yX3_mayBecome cX3_mayBecome 4 (some .boolean), Cond.constant RX3 75 (99999), Cond.methodLink RX4 95 yX3_setTrait, Cond.instanceMethod yX3_setTrait, Cond.selects RX3 yX3_setTrait yX3_setTrait, Cond.code yX3_setTrait cX3_setTrait 4 none, Cond.methodLink RL 34 yX5_change, Cond.instanceMethod yX5_change, Cond.selects RX5 yX5_change yX5_change, Cond.code yX5_change cX5_change 4 (some .int), Cond.methodLink RX5 150 yX5_mayBe, Cond.instanceMethod yX5_mayBe, Cond.selects RX5 yX5_mayBe yX5_mayBe, Cond.code yX5_mayBe cX5_mayBe 4 (some .boolean), Cond.constant RX5 149 (99999)]
def wsL_law_r13 : List Cond := [Cond.methodLink RL 35 yX4_seen, Cond.instanceMethod yX4_seen, Cond.selects RX4 yX4_seen yX4_seen, Cond.code yX4_seen cX4_seen 3 (some .int), Cond.constant RX4 103 (-1000004), Cond.methodLink RX4 99 yX3_canSee, Cond.instanceMethod yX3_canSee, Cond.selects RX3 yX3_canSee yX3_canSee, Cond.code yX3_canSee cX3_canSee 3 (some .boolean), Cond.methodLink RX3 92 Lib.Math.abs.name, Cond.methodLink RX4 104 yX3_seenBy, Cond.instanceMethod yX3_seenBy, Cond.selects RX3 yX3_seenBy yX3_seenBy, Cond.code yX3_seenBy cX3_seenBy 3 (some .int), Cond.methodLink RL 38 yX5_seen, Cond.instanceMethod yX5_seen, Cond.selects RX5 yX5_seen yX5_seen, Cond.code yX5_seen cX5_seen 3 (some .int), Cond.constant RX5 75 (-1000004), Cond.methodLink RL 39 yX4_wishes, Cond.instanceMethod yX4_wishes, Cond.selects RX4 yX4_wishes yX4_wishes, Cond.code yX4_wishes cX4_wishes 3 (some .int), Cond.methodLink RX4 107 yX3_wishAt]
def wsL_law_r14 : List Cond := [Cond.methodLink RL 42 yX5_wishes, Cond.instanceMethod yX5_wishes, Cond.selects RX5 yX5_wishes yX5_wishes, Cond.code yX5_wishes cX5_wishes 3 (some .int), Cond.methodLink RL 43 yX4_go, Cond.instanceMethod yX4_go, Cond.selects RX4 yX4_go yX4_go, Cond.code yX4_go cX4_go 2 (some .int), Cond.fieldLink RX4 110 "TwoTuesdays$Town" "tuesday" "I", Cond.constant RX4 114 (99999), Cond.constant RX4 115 (-1000005), Cond.methodLink RX4 116 yX3_passTuesdays, Cond.instanceMethod yX3_passTuesdays, Cond.selects RX3 yX3_passTuesdays yX3_passTuesdays, Cond.code yX3_passTuesdays cX3_passTuesdays 4 none, Cond.methodLink RX3 95 yX3_settle, Cond.methodLink RX4 120 yX3_goodsOfAll, Cond.instanceMethod yX3_goodsOfAll, Cond.selects RX3 yX3_goodsOfAll yX3_goodsOfAll, Cond.code yX3_goodsOfAll cX3_goodsOfAll 3 (some .int), Cond.methodLink RL 47 yX5_go, Cond.instanceMethod yX5_go, Cond.selects RX5 yX5_go yX5_go, Cond.code yX5_go cX5_go 2 (some .int)]
def wsL_law_r15 : List Cond := [Cond.constant RX5 159 (-1000005), Cond.methodLink RX5 160 yX5_goesOn, Cond.instanceMethod yX5_goesOn, Cond.selects RX5 yX5_goesOn yX5_goesOn, Cond.code yX5_goesOn cX5_goesOn 3 none, Cond.methodLink RX5 156 yX5_goes, Cond.instanceMethod yX5_goes, Cond.selects RX5 yX5_goes yX5_goes, Cond.code yX5_goes cX5_goes 3 none, Cond.methodLink RX5 153 Lib.Math.min.name, Cond.methodLink RX5 164 yX5_goodsAll, Cond.instanceMethod yX5_goodsAll, Cond.selects RX5 yX5_goodsAll yX5_goodsAll, Cond.code yX5_goodsAll cX5_goodsAll 3 (some .int), Cond.methodLink RL 48 yX4_now, Cond.instanceMethod yX4_now, Cond.selects RX4 yX4_now yX4_now, Cond.code yX4_now cX4_now 2 (some .int), Cond.methodLink RX4 124 yX3_regretters, Cond.instanceMethod yX3_regretters, Cond.selects RX3 yX3_regretters yX3_regretters, Cond.code yX3_regretters cX3_regretters 3 (some .int), Cond.methodLink RX3 104 yX3_regretsNow, Cond.methodLink RX4 127 yX3_visitedPlaces]
def wsL_law_r16 : List Cond := [Cond.instanceMethod yX3_visitedPlaces, Cond.selects RX3 yX3_visitedPlaces yX3_visitedPlaces, Cond.code yX3_visitedPlaces cX3_visitedPlaces 3 (some .int), Cond.methodLink RX4 130 yX3_movers, Cond.instanceMethod yX3_movers, Cond.selects RX3 yX3_movers yX3_movers, Cond.code yX3_movers cX3_movers 3 (some .int), Cond.methodLink RX4 133 yX3_richest, Cond.instanceMethod yX3_richest, Cond.selects RX3 yX3_richest yX3_richest, Cond.code yX3_richest cX3_richest 3 (some .int), Cond.methodLink RL 51 yX5_now, Cond.instanceMethod yX5_now, Cond.selects RX5 yX5_now yX5_now, Cond.code yX5_now cX5_now 2 (some .int), Cond.methodLink RX5 168 yX5_whoRegrets, Cond.instanceMethod yX5_whoRegrets, Cond.selects RX5 yX5_whoRegrets yX5_whoRegrets, Cond.code yX5_whoRegrets cX5_whoRegrets 3 (some .int), Cond.methodLink RX5 171 yX5_comePlaces, Cond.instanceMethod yX5_comePlaces, Cond.selects RX5 yX5_comePlaces yX5_comePlaces, Cond.code yX5_comePlaces cX5_comePlaces 3 (some .int), Cond.methodLink RX5 174 yX5_whoMoves]
def wsL_law_r17 : List Cond := [Cond.instanceMethod yX5_whoMoves, Cond.selects RX5 yX5_whoMoves yX5_whoMoves, Cond.code yX5_whoMoves cX5_whoMoves 3 (some .int), Cond.methodLink RX5 177 yX5_richest, Cond.instanceMethod yX5_richest, Cond.selects RX5 yX5_richest yX5_richest, Cond.code yX5_richest cX5_richest 3 (some .int), Cond.methodLink RL 52 yX4_ahead, Cond.instanceMethod yX4_ahead, Cond.selects RX4 yX4_ahead yX4_ahead, Cond.code yX4_ahead cX4_ahead 3 (some .int), Cond.fieldLink RX4 140 "TwoTuesdays$Town" "goodsOf" "[I", Cond.methodLink RX4 136 yX3_become, Cond.instanceMethod yX3_become, Cond.selects RX3 yX3_become yX3_become, Cond.code yX3_become cX3_become 2 none, Cond.methodLink RX3 58 arraycopyName, Cond.native arraycopyName, Cond.static arraycopyName, Cond.initialized "java/lang/System", Cond.methodLink RL 55 yX5_ahead, Cond.instanceMethod yX5_ahead, Cond.selects RX5 yX5_ahead yX5_ahead, Cond.code yX5_ahead cX5_ahead 3 (some .int)]
def wsL_law_r18 : List Cond := [Cond.methodLink RX5 183 yX5_isAhead, Cond.static yX5_isAhead, Cond.code yX5_isAhead cX5_isAhead 1 (some .boolean), Cond.methodLink RX5 186 yX5_behind, Cond.instanceMethod yX5_behind, Cond.selects RX5 yX5_behind yX5_behind, Cond.code yX5_behind cX5_behind 3 (some .int), Cond.methodLink RX5 71 yX5_copyRow, Cond.static yX5_copyRow, Cond.code yX5_copyRow cX5_copyRow 3 none, Cond.methodLink RX5 180 yX5_putBack, Cond.instanceMethod yX5_putBack, Cond.selects RX5 yX5_putBack yX5_putBack, Cond.code yX5_putBack cX5_putBack 2 (some .int), Cond.methodLink RL 56 yX4_plan, Cond.instanceMethod yX4_plan, Cond.selects RX4 yX4_plan yX4_plan, Cond.code yX4_plan cX4_plan 3 (some .int), Cond.fieldLink RX4 143 "TwoTuesdays$Town" "planOf" "[I", Cond.methodLink RL 59 yX5_plan, Cond.instanceMethod yX5_plan, Cond.selects RX5 yX5_plan yX5_plan, Cond.code yX5_plan cX5_plan 3 (some .int), Cond.methodLink RL 60 yX4_rests]
def wsL_law_r19 : List Cond := [Cond.instanceMethod yX4_rests, Cond.selects RX4 yX4_rests yX4_rests, Cond.code yX4_rests cX4_rests 2 (some .int), Cond.methodLink RL 64 yX5_rests, Cond.instanceMethod yX5_rests, Cond.selects RX5 yX5_rests yX5_rests, Cond.code yX5_rests cX5_rests 2 (some .int), Cond.methodLink RX5 189 yX5_orNone, Cond.instanceMethod yX5_orNone, Cond.selects RX5 yX5_orNone yX5_orNone, Cond.code yX5_orNone cX5_orNone 2 (some .int), Cond.methodLink RL 65 yX4_round, Cond.instanceMethod yX4_round, Cond.selects RX4 yX4_round yX4_round, Cond.code yX4_round cX4_round 2 (some .int), Cond.methodLink RX4 146 yX3_hasPlansOf, Cond.instanceMethod yX3_hasPlansOf, Cond.selects RX3 yX3_hasPlansOf yX3_hasPlansOf, Cond.code yX3_hasPlansOf cX3_hasPlansOf 3 (some .boolean), Cond.methodLink RL 68 yX5_round, Cond.instanceMethod yX5_round, Cond.selects RX5 yX5_round yX5_round, Cond.code yX5_round cX5_round 2 (some .int), Cond.methodLink RX5 192 yX5_arePlansAside]
def wsL_law_r20 : List Cond := [Cond.instanceMethod yX5_arePlansAside, Cond.selects RX5 yX5_arePlansAside yX5_arePlansAside, Cond.code yX5_arePlansAside cX5_arePlansAside 3 (some .boolean), Cond.methodLink RL 69 yX4_meet, Cond.instanceMethod yX4_meet, Cond.selects RX4 yX4_meet yX4_meet, Cond.code yX4_meet cX4_meet 4 (some .int), Cond.methodLink RL 72 yX5_meet, Cond.instanceMethod yX5_meet, Cond.selects RX5 yX5_meet yX5_meet, Cond.code yX5_meet cX5_meet 4 (some .int), Cond.methodLink RX5 196 yX5_doMeet, Cond.instanceMethod yX5_doMeet, Cond.selects RX5 yX5_doMeet yX5_doMeet, Cond.code yX5_doMeet cX5_doMeet 3 (some .boolean), Cond.methodLink RL 73 yX4_crowd, Cond.instanceMethod yX4_crowd, Cond.selects RX4 yX4_crowd yX4_crowd, Cond.code yX4_crowd cX4_crowd 7 (some .int), Cond.fieldLink RX4 150 "TwoTuesdays$Town" "chosenAt" "[I", Cond.methodLink RX4 153 Lib.Math.min.name, Cond.methodLink RX4 158 Lib.Math.max.name, Cond.methodLink RL 76 yX5_crowd, Cond.instanceMethod yX5_crowd]
def wsL_law_r21 : List Cond := [Cond.selects RX5 yX5_crowd yX5_crowd, Cond.code yX5_crowd cX5_crowd 8 (some .int), Cond.methodLink RX5 199 Lib.Math.max.name, Cond.methodLink RL 77 yX4_planFor, Cond.instanceMethod yX4_planFor, Cond.selects RX4 yX4_planFor yX4_planFor, Cond.code yX4_planFor cX4_planFor 3 (some .int), Cond.methodLink RX4 161 yX4_richestWith, Cond.instanceMethod yX4_richestWith, Cond.selects RX4 yX4_richestWith yX4_richestWith, Cond.code yX4_richestWith cX4_richestWith 7 (some .int), Cond.methodLink RL 80 yX5_planFor, Cond.instanceMethod yX5_planFor, Cond.selects RX5 yX5_planFor yX5_planFor, Cond.code yX5_planFor cX5_planFor 3 (some .int), Cond.methodLink RX5 202 yX5_isTried, Cond.instanceMethod yX5_isTried, Cond.selects RX5 yX5_isTried yX5_isTried, Cond.code yX5_isTried cX5_isTried 3 (some .boolean), Cond.methodLink RX5 205 yX5_bestFor, Cond.instanceMethod yX5_bestFor, Cond.selects RX5 yX5_bestFor yX5_bestFor, Cond.code yX5_bestFor cX5_bestFor 11 (some .int), Cond.methodLink RL 81 yX4_kindFor]
def wsL_law_r22 : List Cond := [Cond.instanceMethod yX4_kindFor, Cond.selects RX4 yX4_kindFor yX4_kindFor, Cond.code yX4_kindFor cX4_kindFor 3 (some .int), Cond.methodLink RL 84 yX5_kindFor, Cond.instanceMethod yX5_kindFor, Cond.selects RX5 yX5_kindFor yX5_kindFor, Cond.code yX5_kindFor cX5_kindFor 3 (some .int), Cond.methodLink RL 85 yX4_looksFor, Cond.instanceMethod yX4_looksFor, Cond.selects RX4 yX4_looksFor yX4_looksFor, Cond.code yX4_looksFor cX4_looksFor 3 (some .int), Cond.methodLink RL 88 yX5_looksFor, Cond.instanceMethod yX5_looksFor, Cond.selects RX5 yX5_looksFor yX5_looksFor, Cond.code yX5_looksFor cX5_looksFor 3 (some .int), Cond.methodLink RL 89 yX4_loveFor, Cond.instanceMethod yX4_loveFor, Cond.selects RX4 yX4_loveFor yX4_loveFor, Cond.code yX4_loveFor cX4_loveFor 3 (some .int), Cond.methodLink RL 92 yX5_loveFor, Cond.instanceMethod yX5_loveFor, Cond.selects RX5 yX5_loveFor yX5_loveFor, Cond.code yX5_loveFor cX5_loveFor 3 (some .int), Cond.methodLink RL 93 yX4_prizeFor]
def wsL_law_r23 : List Cond := [Cond.instanceMethod yX4_prizeFor, Cond.selects RX4 yX4_prizeFor yX4_prizeFor, Cond.code yX4_prizeFor cX4_prizeFor 4 (some .int), Cond.methodLink RL 96 yX5_prizeFor, Cond.instanceMethod yX5_prizeFor, Cond.selects RX5 yX5_prizeFor yX5_prizeFor, Cond.code yX5_prizeFor cX5_prizeFor 6 (some .int), Cond.methodLink RX5 209 yX5_manyNow, Cond.instanceMethod yX5_manyNow, Cond.selects RX5 yX5_manyNow yX5_manyNow, Cond.code yX5_manyNow cX5_manyNow 2 (some .int), Cond.methodLink RL 97 yX4_tell, Cond.instanceMethod yX4_tell, Cond.selects RX4 yX4_tell yX4_tell, Cond.code yX4_tell cX4_tell 6 (some .int), Cond.methodLink RX4 168 yJ6_bitCount_0f7a4, Cond.static yJ6_bitCount_0f7a4, Cond.initialized RJ6, Cond.code yJ6_bitCount_0f7a4 cJ6_bitCount_0f7a4 1 (some .int), Cond.constant RJ6 265 (1431655765), Cond.constant RJ6 266 (858993459), Cond.constant RJ6 267 (252645135), Cond.methodLink RX4 173 yX4_comersIfTold, Cond.instanceMethod yX4_comersIfTold]
def wsL_law_r24 : List Cond := [Cond.selects RX4 yX4_comersIfTold yX4_comersIfTold, Cond.code yX4_comersIfTold cX4_comersIfTold 4 (some .int), Cond.methodLink RL 100 yX5_tell, Cond.instanceMethod yX5_tell, Cond.selects RX5 yX5_tell yX5_tell, Cond.code yX5_tell cX5_tell 6 (some .int), Cond.methodLink RX5 215 yX5_manyIfTold, Cond.instanceMethod yX5_manyIfTold, Cond.selects RX5 yX5_manyIfTold yX5_manyIfTold, Cond.code yX5_manyIfTold cX5_manyIfTold 4 (some .int), Cond.methodLink RX5 212 yX5_has, Cond.static yX5_has, Cond.code yX5_has cX5_has 2 (some .boolean), Cond.methodLink RL 101 yX4_away, Cond.instanceMethod yX4_away, Cond.selects RX4 yX4_away yX4_away, Cond.code yX4_away cX4_away 5 (some .int), Cond.methodLink RL 104 yX5_away, Cond.instanceMethod yX5_away, Cond.selects RX5 yX5_away yX5_away, Cond.code yX5_away cX5_away 5 (some .int), Cond.methodLink RX5 218 yX5_goodsWithout, Cond.instanceMethod yX5_goodsWithout, Cond.selects RX5 yX5_goodsWithout yX5_goodsWithout]
def wsL_law_r25 : List Cond := [Cond.code yX5_goodsWithout cX5_goodsWithout 2 (some .int), Cond.methodLink RL 105 yX4_swapFor, Cond.instanceMethod yX4_swapFor, Cond.selects RX4 yX4_swapFor yX4_swapFor, Cond.code yX4_swapFor cX4_swapFor 7 (some .int), Cond.methodLink RX4 176 yX4_goodsIfSwapped, Cond.instanceMethod yX4_goodsIfSwapped, Cond.selects RX4 yX4_goodsIfSwapped yX4_goodsIfSwapped, Cond.code yX4_goodsIfSwapped cX4_goodsIfSwapped 4 (some .int), Cond.methodLink RL 108 yX5_swapFor, Cond.instanceMethod yX5_swapFor, Cond.selects RX5 yX5_swapFor yX5_swapFor, Cond.code yX5_swapFor cX5_swapFor 7 (some .int), Cond.methodLink RX5 221 yX5_goodsSwapped, Cond.instanceMethod yX5_goodsSwapped, Cond.selects RX5 yX5_goodsSwapped yX5_goodsSwapped, Cond.code yX5_goodsSwapped cX5_goodsSwapped 5 (some .int), Cond.methodLink RL 109 yX4_fits, Cond.instanceMethod yX4_fits, Cond.selects RX4 yX4_fits yX4_fits, Cond.code yX4_fits cX4_fits 3 (some .int), Cond.methodLink RX4 179 yX4_fittingTraits, Cond.instanceMethod yX4_fittingTraits, Cond.selects RX4 yX4_fittingTraits yX4_fittingTraits]
def wsL_law_r26 : List Cond := [Cond.code yX4_fittingTraits cX4_fittingTraits 6 (some .int), Cond.constant RX4 223 (-1000006), Cond.methodLink RX4 231 yX4_isSheet, Cond.static yX4_isSheet, Cond.code yX4_isSheet cX4_isSheet 1 (some .boolean), Cond.methodLink RX4 242 yX0_isMissing, Cond.instanceMethod yX0_isMissing, Cond.selects RX0 yX0_isMissing yX0_isMissing, Cond.code yX0_isMissing cX0_isMissing 1 (some .boolean), Cond.fieldLink RX0 15 "TwoTuesdays$Sheet" "bits" "I", Cond.methodLink RX4 266 yX4_fitsWith, Cond.instanceMethod yX4_fitsWith, Cond.selects RX4 yX4_fitsWith yX4_fitsWith, Cond.code yX4_fitsWith cX4_fitsWith 7 (some .boolean), Cond.fieldLink RX4 239 "TwoTuesdays$Sheet" "size" "I", Cond.fieldLink RX4 254 "TwoTuesdays$Sheet" "numbers" "[I", Cond.methodLink RL 112 yX5_fits, Cond.instanceMethod yX5_fits, Cond.selects RX5 yX5_fits yX5_fits, Cond.code yX5_fits cX5_fits 3 (some .int), Cond.methodLink RX5 231 yX5_lacks, Cond.instanceMethod yX5_lacks, Cond.selects RX5 yX5_lacks yX5_lacks, Cond.code yX5_lacks cX5_lacks 2 (some .int)]
def wsL_law_r27 : List Cond := [Cond.constant RX5 227 (-1000006), Cond.methodLink RX5 224 yX5_isSheet, Cond.static yX5_isSheet, Cond.code yX5_isSheet cX5_isSheet 1 (some .boolean), Cond.methodLink RX5 234 yX5_fitting, Cond.instanceMethod yX5_fitting, Cond.selects RX5 yX5_fitting yX5_fitting, Cond.code yX5_fitting cX5_fitting 8 (some .int), Cond.methodLink RX5 228 yX5_wentSo, Cond.instanceMethod yX5_wentSo, Cond.selects RX5 yX5_wentSo yX5_wentSo, Cond.code yX5_wentSo cX5_wentSo 6 (some .boolean), Cond.methodLink RL 113 yX4_kinds, Cond.instanceMethod yX4_kinds, Cond.selects RX4 yX4_kinds yX4_kinds, Cond.code yX4_kinds cX4_kinds 3 (some .int), Cond.methodLink RL 116 yX5_kinds, Cond.instanceMethod yX5_kinds, Cond.selects RX5 yX5_kinds yX5_kinds, Cond.code yX5_kinds cX5_kinds 3 (some .int), Cond.methodLink RL 117 yX4_weather, Cond.instanceMethod yX4_weather, Cond.selects RX4 yX4_weather yX4_weather, Cond.code yX4_weather cX4_weather 5 (some .int)]
def wsL_law_r28 : List Cond := [Cond.methodLink RX4 182 yX3_nextDraw, Cond.instanceMethod yX3_nextDraw, Cond.selects RX3 yX3_nextDraw yX3_nextDraw, Cond.code yX3_nextDraw cX3_nextDraw 1 (some .int), Cond.constant RX3 107 (1103515245), Cond.methodLink RL 120 yX5_weather, Cond.instanceMethod yX5_weather, Cond.selects RX5 yX5_weather yX5_weather, Cond.code yX5_weather cX5_weather 4 (some .int), Cond.methodLink RX5 238 yX5_drawn, Cond.instanceMethod yX5_drawn, Cond.selects RX5 yX5_drawn yX5_drawn, Cond.code yX5_drawn cX5_drawn 1 (some .int), Cond.constant RX5 237 (1103515245), Cond.methodLink RL 121 yX4_odds, Cond.instanceMethod yX4_odds, Cond.selects RX4 yX4_odds yX4_odds, Cond.code yX4_odds cX4_odds 6 (some .long), Cond.methodLink RX4 185 yX4_powerOf, Cond.static yX4_powerOf, Cond.code yX4_powerOf cX4_powerOf 5 (some .long), Cond.methodLink RL 125 yX5_odds, Cond.instanceMethod yX5_odds, Cond.selects RX5 yX5_odds yX5_odds]
def wsL_law_r29 : List Cond := [Cond.code yX5_odds cX5_odds 9 (some .long), Cond.methodLink RL 126 yX4_seed, Cond.instanceMethod yX4_seed, Cond.selects RX4 yX4_seed yX4_seed, Cond.code yX4_seed cX4_seed 3 (some .int), Cond.fieldLink RX4 189 "TwoTuesdays$Town" "z" "I", Cond.methodLink RL 129 yX5_seed, Cond.instanceMethod yX5_seed, Cond.selects RX5 yX5_seed yX5_seed, Cond.code yX5_seed cX5_seed 2 (some .int), Cond.methodLink RL 130 yX4_feed, Cond.instanceMethod yX4_feed, Cond.selects RX4 yX4_feed yX4_feed, Cond.code yX4_feed cX4_feed 4 (some .int), Cond.fieldLink RX4 192 "TwoTuesdays$TextReader" "tape" "LTwoTuesdays$Tape;", Cond.fieldLink RX4 196 "TwoTuesdays$Tape" "length" "I", Cond.methodLink RX4 201 yX1_append, Cond.instanceMethod yX1_append, Cond.selects RX1 yX1_append yX1_append, Cond.code yX1_append cX1_append 2 none, Cond.fieldLink RX1 15 "TwoTuesdays$Tape" "length" "I", Cond.methodLink RL 133 yX5_feed, Cond.instanceMethod yX5_feed, Cond.selects RX5 yX5_feed yX5_feed]
def wsL_law_r30 : List Cond := [Cond.code yX5_feed cX5_feed 4 (some .int), Cond.fieldLink RX5 241 "TwoTuesdaysModel" "taped" "I", Cond.methodLink RL 134 yX4_wipe, Cond.instanceMethod yX4_wipe, Cond.selects RX4 yX4_wipe yX4_wipe, Cond.code yX4_wipe cX4_wipe 2 (some .int), Cond.methodLink RL 137 yX5_wipe, Cond.instanceMethod yX5_wipe, Cond.selects RX5 yX5_wipe yX5_wipe, Cond.code yX5_wipe cX5_wipe 2 (some .int), Cond.methodLink RL 138 yX4_text, Cond.instanceMethod yX4_text, Cond.selects RX4 yX4_text yX4_text, Cond.code yX4_text cX4_text 2 (some .int), Cond.fieldLink RX4 204 "TwoTuesdays$TextReader" "draft" "LTwoTuesdays$Town;", Cond.fieldLink RX4 211 "TwoTuesdays$TextReader" "fault" "I", Cond.fieldLink RX4 214 "TwoTuesdays$TextReader" "items" "I", Cond.methodLink RX4 207 yX2_readItems, Cond.instanceMethod yX2_readItems, Cond.selects RX2 yX2_readItems yX2_readItems, Cond.code yX2_readItems cX2_readItems 1 (some .boolean), Cond.fieldLink RX2 25 "TwoTuesdays$TextReader" "items" "I", Cond.fieldLink RX2 39 "TwoTuesdays$Tape" "token" "I", Cond.methodLink RX2 29 yX1_rewind]
def wsL_law_r31 : List Cond := [Cond.instanceMethod yX1_rewind, Cond.selects RX1 yX1_rewind yX1_rewind, Cond.code yX1_rewind cX1_rewind 1 none, Cond.fieldLink RX1 19 "TwoTuesdays$Tape" "end" "I", Cond.methodLink RX1 22 yX1_step, Cond.instanceMethod yX1_step, Cond.selects RX1 yX1_step yX1_step, Cond.code yX1_step cX1_step 2 none, Cond.fieldLink RX1 25 "TwoTuesdays$Tape" "begin" "I", Cond.fieldLink RX1 28 "TwoTuesdays$Tape" "token" "I", Cond.methodLink RX1 31 yX1_skipWord, Cond.instanceMethod yX1_skipWord, Cond.selects RX1 yX1_skipWord yX1_skipWord, Cond.code yX1_skipWord cX1_skipWord 1 none, Cond.methodLink RX1 34 yX1_skipNumber, Cond.instanceMethod yX1_skipNumber, Cond.selects RX1 yX1_skipNumber yX1_skipNumber, Cond.code yX1_skipNumber cX1_skipNumber 1 none, Cond.fieldLink RX1 37 "TwoTuesdays$Tape" "value" "I", Cond.methodLink RX2 32 yX2_readItem, Cond.instanceMethod yX2_readItem, Cond.selects RX2 yX2_readItem yX2_readItem, Cond.code yX2_readItem cX2_readItem 3 (some .boolean), Cond.methodLink RX2 53 yX1_isWord]
def wsL_law_r32 : List Cond := [Cond.instanceMethod yX1_isWord, Cond.selects RX1 yX1_isWord yX1_isWord, Cond.code yX1_isWord cX1_isWord 3 (some .boolean), Cond.methodLink RX1 40 yJ0_length_8abf5, Cond.instanceMethod yJ0_length_8abf5, Cond.selects RJ0 yJ0_length_8abf5 yJ0_length_8abf5, Cond.initialized RJ0, Cond.code yJ0_length_8abf5 cJ0_length_8abf5 1 (some .int), Cond.fieldLink RJ0 9 "java/lang/String" "value" "[B", Cond.methodLink RJ0 335 yJ0_coder_7d493, Cond.instanceMethod yJ0_coder_7d493, Cond.selects RJ0 yJ0_coder_7d493 yJ0_coder_7d493, Cond.code yJ0_coder_7d493 cJ0_coder_7d493 1 (some .byte), Cond.fieldLink RJ0 38 "java/lang/String" "COMPACT_STRINGS" "Z", Cond.fieldLink RJ0 15 "java/lang/String" "coder" "B", Cond.methodLink RX1 45 yJ0_charAt_5068e, Cond.instanceMethod yJ0_charAt_5068e, Cond.selects RJ0 yJ0_charAt_5068e yJ0_charAt_5068e, Cond.code yJ0_charAt_5068e cJ0_charAt_5068e 2 (some .char), Cond.methodLink RJ0 492 yJ0_isLatin1_aae02, Cond.instanceMethod yJ0_isLatin1_aae02, Cond.selects RJ0 yJ0_isLatin1_aae02 yJ0_isLatin1_aae02, Cond.code yJ0_isLatin1_aae02 cJ0_isLatin1_aae02 1 (some .boolean), Cond.methodLink RJ0 495 yJ1_charAt_3b067]
def wsL_law_r33 : List Cond := [Cond.static yJ1_charAt_3b067, Cond.initialized RJ1, Cond.code yJ1_charAt_3b067 cJ1_charAt_3b067 2 (some .char), Cond.methodLink RJ1 9 yJ0_checkIndex_df160, Cond.static yJ0_checkIndex_df160, Cond.code yJ0_checkIndex_df160 cJ0_checkIndex_df160 2 none, Cond.fieldLink RJ0 1053 "jdk/internal/util/Preconditions" "SIOOBE_FORMATTER" "Ljava/util/function/BiFunction;", Cond.methodLink RJ0 1059 yJ3_checkIndex_8e157, Cond.static yJ3_checkIndex_8e157, Cond.initialized RJ3, Cond.code yJ3_checkIndex_8e157 cJ3_checkIndex_8e157 3 (some .int), Cond.methodLink RJ0 498 yJ2_charAt_3b067, Cond.static yJ2_charAt_3b067, Cond.initialized RJ2, Cond.code yJ2_charAt_3b067 cJ2_charAt_3b067 2 (some .char), Cond.methodLink RJ2 67 yJ2_checkIndex_2214a, Cond.static yJ2_checkIndex_2214a, Cond.code yJ2_checkIndex_2214a cJ2_checkIndex_2214a 2 none, Cond.methodLink RJ2 48 yJ2_length_9d52b, Cond.static yJ2_length_9d52b, Cond.code yJ2_length_9d52b cJ2_length_9d52b 1 (some .int), Cond.methodLink RJ2 414 yJ0_checkIndex_df160, Cond.methodLink RJ2 71 yJ2_getChar_3b067, Cond.static yJ2_getChar_3b067]
def wsL_law_r34 : List Cond := [Cond.code yJ2_getChar_3b067 cJ2_getChar_3b067 2 (some .char), Cond.fieldLink RJ2 44 "java/lang/StringUTF16" "$assertionsDisabled" "Z", Cond.fieldLink RJ2 59 "java/lang/StringUTF16" "HI_BYTE_SHIFT" "I", Cond.fieldLink RJ2 63 "java/lang/StringUTF16" "LO_BYTE_SHIFT" "I", Cond.methodLink RX2 42 yX1_step, Cond.methodLink RX2 57 yX2_readPrize, Cond.instanceMethod yX2_readPrize, Cond.selects RX2 yX2_readPrize yX2_readPrize, Cond.code yX2_readPrize cX2_readPrize 2 (some .boolean), Cond.fieldLink RX2 82 "TwoTuesdays$Tape" "value" "I", Cond.fieldLink RX2 85 "TwoTuesdays$Town" "prizeAt" "[I", Cond.methodLink RX2 79 yX2_isNumberHere, Cond.instanceMethod yX2_isNumberHere, Cond.selects RX2 yX2_isNumberHere yX2_isNumberHere, Cond.code yX2_isNumberHere cX2_isNumberHere 2 (some .boolean), Cond.methodLink RX2 60 yX2_kindHere, Cond.instanceMethod yX2_kindHere, Cond.selects RX2 yX2_kindHere yX2_kindHere, Cond.code yX2_kindHere cX2_kindHere 2 (some .int), Cond.methodLink RX2 75 yX2_nameOf, Cond.static yX2_nameOf, Cond.code yX2_nameOf cX2_nameOf 1 (some (.object "java/lang/String")), Cond.methodLink RX2 68 yX3_addOne, Cond.methodLink RX2 72 yX2_readTraits]
def wsL_law_r35 : List Cond := [Cond.instanceMethod yX2_readTraits, Cond.selects RX2 yX2_readTraits yX2_readTraits, Cond.code yX2_readTraits cX2_readTraits 2 (some .boolean), Cond.methodLink RX2 91 yX2_readTrait, Cond.instanceMethod yX2_readTrait, Cond.selects RX2 yX2_readTrait yX2_readTrait, Cond.code yX2_readTrait cX2_readTrait 5 (some .boolean), Cond.methodLink RX2 99 yX3_setTrait, Cond.methodLink RX2 36 yX2_failHere, Cond.instanceMethod yX2_failHere, Cond.selects RX2 yX2_failHere yX2_failHere, Cond.code yX2_failHere cX2_failHere 1 (some .boolean), Cond.fieldLink RX2 45 "TwoTuesdays$Tape" "begin" "I", Cond.fieldLink RX2 48 "TwoTuesdays$TextReader" "fault" "I", Cond.methodLink RL 141 yX5_text, Cond.instanceMethod yX5_text, Cond.selects RX5 yX5_text yX5_text, Cond.code yX5_text cX5_text 3 (some .int), Cond.fieldLink RX5 244 "TwoTuesdaysModel" "ends" "I", Cond.fieldLink RX5 266 "TwoTuesdaysModel" "isWrong" "Z", Cond.fieldLink RX5 277 "TwoTuesdaysModel" "itemMany" "I", Cond.fieldLink RX5 290 "TwoTuesdaysModel" "personThen" "I", Cond.fieldLink RX5 256 "TwoTuesdaysModel" "sort" "I", Cond.fieldLink RX5 247 "TwoTuesdaysModel" "begins" "I"]
def wsL_law_r36 : List Cond := [Cond.methodLink RX5 270 yX5_next, Cond.instanceMethod yX5_next, Cond.selects RX5 yX5_next yX5_next, Cond.code yX5_next cX5_next 2 none, Cond.fieldLink RX5 253 "TwoTuesdaysModel" "value" "I", Cond.methodLink RX5 250 yX5_byteAt, Cond.instanceMethod yX5_byteAt, Cond.selects RX5 yX5_byteAt yX5_byteAt, Cond.code yX5_byteAt cX5_byteAt 2 (some .int), Cond.methodLink RX5 308 yX5_readItem, Cond.instanceMethod yX5_readItem, Cond.selects RX5 yX5_readItem yX5_readItem, Cond.code yX5_readItem cX5_readItem 4 none, Cond.methodLink RX5 287 yX5_kindTold, Cond.instanceMethod yX5_kindTold, Cond.selects RX5 yX5_kindTold yX5_kindTold, Cond.code yX5_kindTold cX5_kindTold 3 (some .int), Cond.methodLink RX5 280 yX5_isWord, Cond.instanceMethod yX5_isWord, Cond.selects RX5 yX5_isWord yX5_isWord, Cond.code yX5_isWord cX5_isWord 4 (some .boolean), Cond.methodLink RX5 259 yJ0_length_8abf5, Cond.methodLink RX5 262 yJ0_charAt_5068e, Cond.methodLink RX5 273 yX5_must]
def wsL_law_r37 : List Cond := [Cond.instanceMethod yX5_must, Cond.selects RX5 yX5_must yX5_must, Cond.code yX5_must cX5_must 2 none, Cond.methodLink RX5 294 yX5_afterWord, Cond.instanceMethod yX5_afterWord, Cond.selects RX5 yX5_afterWord yX5_afterWord, Cond.code yX5_afterWord cX5_afterWord 4 (some .int), Cond.methodLink RX5 284 yX5_number, Cond.instanceMethod yX5_number, Cond.selects RX5 yX5_number yX5_number, Cond.code yX5_number cX5_number 4 (some .int), Cond.methodLink RX5 302 yX5_addItem, Cond.instanceMethod yX5_addItem, Cond.selects RX5 yX5_addItem yX5_addItem, Cond.code yX5_addItem cX5_addItem 6 none, Cond.methodLink RX5 311 yX5_isToldSo, Cond.instanceMethod yX5_isToldSo, Cond.selects RX5 yX5_isToldSo yX5_isToldSo, Cond.code yX5_isToldSo cX5_isToldSo 4 (some .int), Cond.methodLink RL 142 yX4_hold, Cond.instanceMethod yX4_hold, Cond.selects RX4 yX4_hold yX4_hold, Cond.code yX4_hold cX4_hold 3 (some .int), Cond.fieldLink RX4 220 "TwoTuesdays$Town" "heldAt" "[I"]
def wsL_law_r38 : List Cond := [Cond.methodLink RX4 217 yX4_isSpot, Cond.static yX4_isSpot, Cond.code yX4_isSpot cX4_isSpot 1 (some .boolean), Cond.methodLink RL 145 yX5_hold, Cond.instanceMethod yX5_hold, Cond.selects RX5 yX5_hold yX5_hold, Cond.code yX5_hold cX5_hold 3 (some .int), Cond.methodLink RX5 314 yX5_isSpot, Cond.static yX5_isSpot, Cond.code yX5_isSpot cX5_isSpot 1 (some .boolean), Cond.methodLink RL 146 yX4_as, Cond.instanceMethod yX4_as, Cond.selects RX4 yX4_as yX4_as, Cond.code yX4_as cX4_as 4 (some .int), Cond.fieldLink RX4 224 "TwoTuesdays$Town" "kindOf" "[I", Cond.constant RX4 230 (-1000003), Cond.methodLink RX4 227 yX4_isUnder, Cond.static yX4_isUnder, Cond.code yX4_isUnder cX4_isUnder 4 (some .boolean), Cond.fieldLink RX4 270 "TwoTuesdays" "KIND_ABOVE" "[I", Cond.methodLink RL 149 yX5_as, Cond.instanceMethod yX5_as, Cond.selects RX5 yX5_as yX5_as, Cond.code yX5_as cX5_as 4 (some .int)]
def wsL_law_r39 : List Cond := [Cond.constant RX5 320 (-1000003), Cond.methodLink RX5 317 yX5_isUnder, Cond.static yX5_isUnder, Cond.code yX5_isUnder cX5_isUnder 3 (some .boolean), Cond.methodLink RX5 325 yX5_above, Cond.static yX5_above, Cond.code yX5_above cX5_above 1 (some .int), Cond.methodLink RL 150 yX4_sheet, Cond.instanceMethod yX4_sheet, Cond.selects RX4 yX4_sheet yX4_sheet, Cond.code yX4_sheet cX4_sheet 4 (some .int), Cond.constant RX4 234 (-1000007), Cond.methodLink RX4 235 yX0_begin, Cond.instanceMethod yX0_begin, Cond.selects RX0 yX0_begin yX0_begin, Cond.code yX0_begin cX0_begin 3 none, Cond.fieldLink RX0 19 "TwoTuesdays$Sheet" "size" "I", Cond.methodLink RX0 22 yJ7_fill_53178, Cond.methodLink RL 153 yX5_sheet, Cond.instanceMethod yX5_sheet, Cond.selects RX5 yX5_sheet yX5_sheet, Cond.code yX5_sheet cX5_sheet 5 (some .int), Cond.constant RX5 321 (-1000007), Cond.methodLink RL 154 yX4_write]
def wsL_law_r40 : List Cond := [Cond.instanceMethod yX4_write, Cond.selects RX4 yX4_write yX4_write, Cond.code yX4_write cX4_write 4 (some .int), Cond.methodLink RX4 245 yX0_hasNumbers, Cond.instanceMethod yX0_hasNumbers, Cond.selects RX0 yX0_hasNumbers yX0_hasNumbers, Cond.code yX0_hasNumbers cX0_hasNumbers 3 (some .boolean), Cond.methodLink RX4 248 yX0_put, Cond.instanceMethod yX0_put, Cond.selects RX0 yX0_put yX0_put, Cond.code yX0_put cX0_put 3 none, Cond.methodLink RL 157 yX5_write, Cond.instanceMethod yX5_write, Cond.selects RX5 yX5_write yX5_write, Cond.code yX5_write cX5_write 4 (some .int), Cond.methodLink RX5 322 yX5_cutTo, Cond.static yX5_cutTo, Cond.code yX5_cutTo cX5_cutTo 2 (some .int), Cond.methodLink RL 158 yX4_copy, Cond.instanceMethod yX4_copy, Cond.selects RX4 yX4_copy yX4_copy, Cond.code yX4_copy cX4_copy 8 (some .int), Cond.fieldLink RX4 251 "TwoTuesdays$Sheet" "bits" "I", Cond.methodLink RX4 257 arraycopyName]
def wsL_law_r41 : List Cond := [Cond.methodLink RL 162 yX5_copy, Cond.instanceMethod yX5_copy, Cond.selects RX5 yX5_copy yX5_copy, Cond.code yX5_copy cX5_copy 7 (some .int), Cond.methodLink RL 163 yX4_load, Cond.instanceMethod yX4_load, Cond.selects RX4 yX4_load yX4_load, Cond.code yX4_load cX4_load 4 (some .int), Cond.methodLink RL 166 yX5_load, Cond.instanceMethod yX5_load, Cond.selects RX5 yX5_load yX5_load, Cond.code yX5_load cX5_load 3 (some .int), Cond.methodLink RL 167 yX4_judge, Cond.instanceMethod yX4_judge, Cond.selects RX4 yX4_judge yX4_judge, Cond.code yX4_judge cX4_judge 4 (some .int), Cond.methodLink RL 170 yX5_judge, Cond.instanceMethod yX5_judge, Cond.selects RX5 yX5_judge yX5_judge, Cond.code yX5_judge cX5_judge 3 (some .int), Cond.methodLink RL 171 yX4_image, Cond.instanceMethod yX4_image, Cond.selects RX4 yX4_image yX4_image, Cond.code yX4_image cX4_image 1 (some .int)]
def wsL_law_r42 : List Cond := [Cond.methodLink RL 174 yX5_image, Cond.instanceMethod yX5_image, Cond.selects RX5 yX5_image yX5_image, Cond.code yX5_image cX5_image 1 (some .int), Cond.fieldLink RX5 328 "TwoTuesdaysModel" "isKept" "Z", Cond.methodLink RL 175 yX4_undo, Cond.instanceMethod yX4_undo, Cond.selects RX4 yX4_undo yX4_undo, Cond.code yX4_undo cX4_undo 1 (some .int), Cond.methodLink RL 178 yX5_undo, Cond.instanceMethod yX5_undo, Cond.selects RX5 yX5_undo yX5_undo, Cond.code yX5_undo cX5_undo 1 (some .int), Cond.methodLink RL 179 yX4_tear, Cond.instanceMethod yX4_tear, Cond.selects RX4 yX4_tear yX4_tear, Cond.code yX4_tear cX4_tear 2 (some .int), Cond.methodLink RL 182 yX5_tear, Cond.instanceMethod yX5_tear, Cond.selects RX5 yX5_tear yX5_tear, Cond.code yX5_tear cX5_tear 2 (some .int), Cond.methodLink RL 183 yX4_count, Cond.instanceMethod yX4_count, Cond.selects RX4 yX4_count yX4_count]
def wsL_law_r43 : List Cond := [Cond.code yX4_count cX4_count 2 (some .int), Cond.methodLink RX4 263 yX3_fullSpots, Cond.instanceMethod yX3_fullSpots, Cond.selects RX3 yX3_fullSpots yX3_fullSpots, Cond.code yX3_fullSpots cX3_fullSpots 3 (some .int), Cond.methodLink RL 186 yX5_count, Cond.instanceMethod yX5_count, Cond.selects RX5 yX5_count yX5_count, Cond.code yX5_count cX5_count 4 (some .int), Cond.methodLink RL 187 yX4_status, Cond.instanceMethod yX4_status, Cond.selects RX4 yX4_status yX4_status, Cond.code yX4_status cX4_status 4 (some .int), Cond.methodLink RL 190 yX5_status, Cond.instanceMethod yX5_status, Cond.selects RX5 yX5_status yX5_status, Cond.code yX5_status cX5_status 2 (some .int)]
def wsL_law : List Cond := (wsL_law_r1 ++ (wsL_law_r2 ++ (wsL_law_r3 ++ (wsL_law_r4 ++ (wsL_law_r5 ++ (wsL_law_r6 ++ (wsL_law_r7 ++ (wsL_law_r8 ++ (wsL_law_r9 ++ (wsL_law_r10 ++ (wsL_law_r11 ++ (wsL_law_r12 ++ (wsL_law_r13 ++ (wsL_law_r14 ++ (wsL_law_r15 ++ (wsL_law_r16 ++ (wsL_law_r17 ++ (wsL_law_r18 ++ (wsL_law_r19 ++ (wsL_law_r20 ++ (wsL_law_r21 ++ (wsL_law_r22 ++ (wsL_law_r23 ++ (wsL_law_r24 ++ (wsL_law_r25 ++ (wsL_law_r26 ++ (wsL_law_r27 ++ (wsL_law_r28 ++ (wsL_law_r29 ++ (wsL_law_r30 ++ (wsL_law_r31 ++ (wsL_law_r32 ++ (wsL_law_r33 ++ (wsL_law_r34 ++ (wsL_law_r35 ++ (wsL_law_r36 ++ (wsL_law_r37 ++ (wsL_law_r38 ++ (wsL_law_r39 ++ (wsL_law_r40 ++ (wsL_law_r41 ++ (wsL_law_r42 ++ wsL_law_r43)))))))))))))))))))))))))))))))))))))))))) ++ wsX40 ++ wsX50 ++ wsX30 ++ wsX20 ++ wsX00 ++ wsX10 ++ ([] : List Cond)
abbrev vwCl : List vw_C := [(RX0, TX0, 3), (RX1, TX1, 6), (RX2, TX2, 4), (RX3, TX3, 13), (RX4, TX4, 7), (RX5, TX5, 23)]
end
section
/-! ===== my own rows over the kit's: worlds of one shape, contracts whose end is a function of the start ===== -/
theorem tt_hin {i n : Nat} (hi : i < n) (hn : n < 2 ^ 31) : vp_in (nI i) n := vp_in_nI hi hn
section TTa
variable {p : Program} {l : Launch} {e : Env} {R : Room} {s : State} {m : MethodId} {args : Array Value} {below : List Frame} {meth : Method} {c : Code} {H : Heap} {locs : List Loc} {cells slots : Nat} {Q : State → Prop}
variable {cc : ByteArray} {pc : Nat} {ls : Array Slot} {rest : List Value} {D : va_G} {cl : List vw_C} {tys : List (ClassId × FieldType)} {ws : va_W} {A : Nat → Prop} {H0 : Heap} {a : Nat}
theorem tt_topi {x y : Int32} (h : x = y) (k : W p l e R s m args below meth c H locs cells slots Q (F0 m pc ls (.int y :: rest))) : W p l e R s m args below meth c H locs cells slots Q (F0 m pc ls (.int x :: rest)) := h ▸ k
theorem tt_topl {x y : Int64} (h : x = y) (k : W p l e R s m args below meth c H locs cells slots Q (F0 m pc ls (.long y :: rest))) : W p l e R s m args below meth c H locs cells slots Q (F0 m pc ls (.long x :: rest)) := h ▸ k
theorem tt_stk {st st' : List Value} (h : st = st') (k : W p l e R s m args below meth c H locs cells slots Q (F0 m pc ls st')) : W p l e R s m args below meth c H locs cells slots Q (F0 m pc ls st) := h ▸ k
theorem tt_iald {f : Nat → Int32} (q0 t0 : Nat) {i : Nat} (hx : p.tables.exec = Jvm.exec) (hb : c.code = cc) (hK : va_K D cl tys s) (hP : va_P D cl ws H) {cA : ClassId} {n : Nat} (ha : ws[q0]? = some (a, .inl (cA, n, .inl f))) (ht : tys[t0]? = some (cA, .int)) (hi : i < n) (hn : n < 2 ^ 31) (hdg : decode cc pc = .ok (.iaload, 1))
    (kk : W p l e R s m args below meth c H locs cells slots Q (F0 m (pc + 1) ls (.int (f i) :: rest))) : W p l e R s m args below meth c H locs cells slots Q (F0 m pc ls (.int (nI i) :: .ref a :: rest)) := by
  refine va_iald hx hb hK hP q0 t0 ha ht (tt_hin hi hn) hdg ?_
  rw [nI_clamp (Nat.lt_trans hi hn)]
  exact kk
theorem tt_iast {f : Nat → Int32} (q0 t0 : Nat) (ws' : va_W) {i : Nat} {x : Int32} (hx : p.tables.exec = Jvm.exec) (hb : c.code = cc) (hK : va_K D cl tys s) (hP : va_P D cl ws H) (hD : va_D A ws) (hS : va_S A H0 H locs) {cA : ClassId} {n : Nat} (ha : ws[q0]? = some (a, .inl (cA, n, .inl f))) (ht : tys[t0]? = some (cA, .int)) (hi : i < n) (hn : n < 2 ^ 31) (hw : ws.set q0 (a, .inl (cA, n, .inl (upd f i x))) = ws') (hdg : decode cc pc = .ok (.iastore, 1))
    (kk : ∀ (H1 : Heap) (locs1 : List Loc), va_P D cl ws' H1 → va_D A ws' → va_S A H0 H1 locs1 → W p l e R s m args below meth c H1 locs1 cells slots Q (F0 m (pc + 1) ls rest)) : W p l e R s m args below meth c H locs cells slots Q (F0 m pc ls (.int x :: .int (nI i) :: .ref a :: rest)) := by
  refine va_iast hx hb hK hP hD hS q0 t0 ha ht (tt_hin hi hn) hdg (fun H1 locs1 h1 h2 h3 => ?_)
  rw [nI_clamp (Nat.lt_trans hi hn), hw] at h1 h2
  exact kk H1 locs1 h1 h2 h3
/-- branches over small numbers -/
theorem tt_ge {x y : Nat} {off : Int} {tgt : Nat} (hx : p.tables.exec = Jvm.exec) (hb : c.code = cc) (hdg : decode cc pc = .ok (.if_icmp .ge off, 3)) (ht : (pc : Int) + off = (tgt : Int)) (h1 : x < 2 ^ 31) (h2 : y < 2 ^ 31)
    (kt : y ≤ x → W p l e R s m args below meth c H locs cells slots Q (F0 m tgt ls rest)) (kf : x < y → W p l e R s m args below meth c H locs cells slots Q (F0 m (pc + 3) ls rest)) : W p l e R s m args below meth c H locs cells slots Q (F0 m pc ls (.int (nI y) :: .int (nI x) :: rest)) :=
  lv_icmp_ge hx hb hdg ht (fun h => kt ((nI_leI h2 h1).mp h)) (fun h => kf (Nat.not_le.mp fun q => h ((nI_leI h2 h1).mpr q)))
theorem tt_gt {x y : Nat} {off : Int} {tgt : Nat} (hx : p.tables.exec = Jvm.exec) (hb : c.code = cc) (hdg : decode cc pc = .ok (.if_icmp .gt off, 3)) (ht : (pc : Int) + off = (tgt : Int)) (h1 : x < 2 ^ 31) (h2 : y < 2 ^ 31)
    (kt : y < x → W p l e R s m args below meth c H locs cells slots Q (F0 m tgt ls rest)) (kf : x ≤ y → W p l e R s m args below meth c H locs cells slots Q (F0 m (pc + 3) ls rest)) : W p l e R s m args below meth c H locs cells slots Q (F0 m pc ls (.int (nI y) :: .int (nI x) :: rest)) :=
  lv_icmp_gt hx hb hdg ht (fun h => kt ((nI_ltI h2 h1).mp h)) (fun h => kf (Nat.not_lt.mp fun q => h ((nI_ltI h2 h1).mpr q)))
theorem tt_lt {x y : Nat} {off : Int} {tgt : Nat} (hx : p.tables.exec = Jvm.exec) (hb : c.code = cc) (hdg : decode cc pc = .ok (.if_icmp .lt off, 3)) (ht : (pc : Int) + off = (tgt : Int)) (h1 : x < 2 ^ 31) (h2 : y < 2 ^ 31)
    (kt : x < y → W p l e R s m args below meth c H locs cells slots Q (F0 m tgt ls rest)) (kf : y ≤ x → W p l e R s m args below meth c H locs cells slots Q (F0 m (pc + 3) ls rest)) : W p l e R s m args below meth c H locs cells slots Q (F0 m pc ls (.int (nI y) :: .int (nI x) :: rest)) :=
  lv_icmp_lt hx hb hdg ht (fun h => kt ((nI_ltI h1 h2).mp h)) (fun h => kf (Nat.not_lt.mp fun q => h ((nI_ltI h1 h2).mpr q)))
theorem tt_le {x y : Nat} {off : Int} {tgt : Nat} (hx : p.tables.exec = Jvm.exec) (hb : c.code = cc) (hdg : decode cc pc = .ok (.if_icmp .le off, 3)) (ht : (pc : Int) + off = (tgt : Int)) (h1 : x < 2 ^ 31) (h2 : y < 2 ^ 31)
    (kt : x ≤ y → W p l e R s m args below meth c H locs cells slots Q (F0 m tgt ls rest)) (kf : y < x → W p l e R s m args below meth c H locs cells slots Q (F0 m (pc + 3) ls rest)) : W p l e R s m args below meth c H locs cells slots Q (F0 m pc ls (.int (nI y) :: .int (nI x) :: rest)) :=
  lv_icmp_le hx hb hdg ht (fun h => kt ((nI_leI h1 h2).mp h)) (fun h => kf (Nat.not_le.mp fun q => h ((nI_leI h1 h2).mpr q)))
theorem tt_eq {x y : Nat} {off : Int} {tgt : Nat} (hx : p.tables.exec = Jvm.exec) (hb : c.code = cc) (hdg : decode cc pc = .ok (.if_icmp .eq off, 3)) (ht : (pc : Int) + off = (tgt : Int)) (h1 : x < 2 ^ 31) (h2 : y < 2 ^ 31)
    (kt : x = y → W p l e R s m args below meth c H locs cells slots Q (F0 m tgt ls rest)) (kf : ¬ x = y → W p l e R s m args below meth c H locs cells slots Q (F0 m (pc + 3) ls rest)) : W p l e R s m args below meth c H locs cells slots Q (F0 m pc ls (.int (nI y) :: .int (nI x) :: rest)) :=
  lv_icmp_eq hx hb hdg ht (fun h => kt ((nI_eq h1 h2).mp h)) (fun h => kf fun q => h ((nI_eq h1 h2).mpr q))
theorem tt_ne {x y : Nat} {off : Int} {tgt : Nat} (hx : p.tables.exec = Jvm.exec) (hb : c.code = cc) (hdg : decode cc pc = .ok (.if_icmp .ne off, 3)) (ht : (pc : Int) + off = (tgt : Int)) (h1 : x < 2 ^ 31) (h2 : y < 2 ^ 31)
    (kt : ¬ x = y → W p l e R s m args below meth c H locs cells slots Q (F0 m tgt ls rest)) (kf : x = y → W p l e R s m args below meth c H locs cells slots Q (F0 m (pc + 3) ls rest)) : W p l e R s m args below meth c H locs cells slots Q (F0 m pc ls (.int (nI y) :: .int (nI x) :: rest)) :=
  lv_icmp_ne hx hb hdg ht (fun h => kt fun q => h ((nI_eq h1 h2).mpr q)) (fun h => kf ((nI_eq h1 h2).mp h))
/-- branches over what a question answered -/
theorem tt_bne {B : Prop} [Decidable B] {off : Int} {tgt : Nat} (hx : p.tables.exec = Jvm.exec) (hb : c.code = cc) (hdg : decode cc pc = .ok (.ifCond .ne off, 3)) (ht : (pc : Int) + off = (tgt : Int))
    (kt : B → W p l e R s m args below meth c H locs cells slots Q (F0 m tgt ls rest)) (kf : ¬ B → W p l e R s m args below meth c H locs cells slots Q (F0 m (pc + 3) ls rest)) : W p l e R s m args below meth c H locs cells slots Q (F0 m pc ls (.int (if B then 1 else 0) :: rest)) := by
  by_cases h : B
  · rw [if_pos h]; exact lv_if_ne hx hb hdg ht (fun _ => kt h) (fun q => absurd q (by decide))
  · rw [if_neg h]; exact lv_if_ne hx hb hdg ht (fun q => absurd rfl q) (fun _ => kf h)
theorem tt_beq {B : Prop} [Decidable B] {off : Int} {tgt : Nat} (hx : p.tables.exec = Jvm.exec) (hb : c.code = cc) (hdg : decode cc pc = .ok (.ifCond .eq off, 3)) (ht : (pc : Int) + off = (tgt : Int))
    (kt : ¬ B → W p l e R s m args below meth c H locs cells slots Q (F0 m tgt ls rest)) (kf : B → W p l e R s m args below meth c H locs cells slots Q (F0 m (pc + 3) ls rest)) : W p l e R s m args below meth c H locs cells slots Q (F0 m pc ls (.int (if B then 1 else 0) :: rest)) := by
  by_cases h : B
  · rw [if_pos h]; exact lv_if_eq hx hb hdg ht (fun q => absurd q (by decide)) (fun _ => kf h)
  · rw [if_neg h]; exact lv_if_eq hx hb hdg ht (fun _ => kt h) (fun q => absurd rfl q)
end TTa
end
section
/-! ===== what stays as it was at the start: links among nest mates, constants, texts ===== -/
def tt_len : List Nat := [6, 7, 5, 7, 5, 3, 7, 5, 2, 5, 5]
def tt_byt : List (List Int32) := [[112, 101, 114, 115, 111, 110], [103, 97, 109, 98, 108, 101, 114], [108, 111, 118, 101, 114], [106, 101, 97, 108, 111, 117, 115], [116, 104, 105, 101, 102], [99, 97, 116], [115, 108, 101, 101, 112, 101, 114], [112, 114, 105, 122, 101], [97, 116], [108, 111, 111, 107, 115], [108, 111, 118, 101, 115]]
def tt_refs : List (String × Nat × String × Nat) := [(RX2, 103, "person", 0), (RX2, 105, "gambler", 1), (RX2, 107, "lover", 2), (RX2, 109, "jealous", 3), (RX2, 111, "thief", 4), (RX2, 113, "cat", 5), (RX2, 115, "sleeper", 6), (RX2, 51, "prize", 7), (RX2, 89, "at", 8), (RX2, 95, "looks", 9), (RX2, 97, "loves", 10), (RX5, 37, "person", 0), (RX5, 39, "gambler", 1), (RX5, 41, "lover", 2), (RX5, 43, "jealous", 3), (RX5, 45, "thief", 4), (RX5, 47, "cat", 5), (RX5, 49, "sleeper", 6), (RX5, 306, "prize", 7), (RX5, 293, "at", 8), (RX5, 298, "looks", 9), (RX5, 300, "loves", 10)]
def tt_above : Nat → Int32 := fun k => ([-1, 0, 0, 2, 3, 0, 1] : List Int32).getD k 0
def tt_nests : List (String × Nat × MethodName) := [(RX4, 24, yX2_init), (RX4, 35, yX0_init), (RX2, 11, yX1_init), (RX2, 64, yX4_isKind), (RX3, 101, yX4_shareOf), (RX3, 64, yX4_isKind), (RX3, 68, yX4_isPlace), (RX3, 71, yX4_isWithin)]
def tt_N (U : State) : Prop := ∀ q ∈ tt_nests, va_Nw (.methodLinkNest q.1 q.2.1 q.2.2 RX4) U
def tt_R (ad : Nat → Nat) (U : State) : Prop := ∀ q ∈ tt_refs, vk_R q.1 q.2.1 q.2.2.1 (ad q.2.2.2) U
def tt_Z (ad : Nat → Nat) (A : Nat → Prop) (U : State) (H : Heap) : Prop := (va_Z RX4 "KIND_ABOVE" "[I" (.ref (ad 200)) A U H ∧ va_T .int (ad 200) 7 (fun k => .int (tt_above k)) A U H) ∧ va_Z "java/lang/String" "COMPACT_STRINGS" "Z" (.int 1) A U H ∧ va_Zq "jdk/internal/util/Preconditions" "SIOOBE_FORMATTER" "Ljava/util/function/BiFunction;" A U H ∧ vk_S 11 tt_len tt_byt ad (fun i => ad (100 + i)) A U H
def tt_E (ad : Nat → Nat) (A : Nat → Prop) (U : State) (H : Heap) : Prop := tt_N U ∧ tt_R ad U ∧ tt_Z ad A U H
theorem tt_Z.moved {ad : Nat → Nat} {A : Nat → Prop} {u U : State} {H : Heap} (hvm : u.vm.Alike U.vm) (h : tt_Z ad A u H) : tt_Z ad A U H := ⟨⟨va_Z.moved hvm h.1.1, va_T.moved hvm h.1.2⟩, va_Z.moved hvm h.2.1, va_Zq.moved hvm h.2.2.1, vk_S.moved hvm h.2.2.2⟩
theorem tt_Z.kept {ad : Nat → Nat} {A : Nat → Prop} {U : State} {H H1 : Heap} (h : tt_Z ad A U H) (hq : ∀ a : Nat, a < H.size → ¬ A a → H1[a]? = H[a]?) : tt_Z ad A U H1 := ⟨⟨h.1.1.kept hq, h.1.2.kept hq⟩, h.2.1.kept hq, h.2.2.1.kept hq, h.2.2.2.kept hq⟩
theorem tt_Z.narrow {ad : Nat → Nat} {A B : Nat → Prop} {U : State} {H : Heap} (h : tt_Z ad A U H) (hAB : ∀ q, B q → A q) : tt_Z ad B U H := ⟨⟨h.1.1.narrow hAB, h.1.2.narrow hAB⟩, h.2.1.narrow hAB, h.2.2.1.narrow hAB, h.2.2.2.narrow hAB⟩
theorem tt_E.warm {ad : Nat → Nat} {A : Nat → Prop} {s U : State} {H : Heap} (hW : s.WarmedH U.vm) (h : tt_E ad A s H) : tt_E ad A U H := ⟨fun q hq => va_Nw.warmM hW (h.1 q hq), fun q hq => vk_R.warm hW (h.2.1 q hq), tt_Z.moved hW.alike h.2.2⟩
theorem tt_E.same {ad : Nat → Nat} {A : Nat → Prop} {u U : State} {H : Heap} (hv : U.vm = u.vm) (h : tt_E ad A u H) : tt_E ad A U H := ⟨fun q hq => va_Nw.same rfl hv.symm (h.1 q hq), fun q hq => vk_R.same hv (h.2.1 q hq), tt_Z.moved (by rw [hv]; exact Vm.Alike.refl u.vm) h.2.2⟩
theorem tt_E.kept {ad : Nat → Nat} {A : Nat → Prop} {U : State} {H0 H : Heap} {locs : List Loc} (h : tt_E ad A U H0) (hS : va_S A H0 H locs) : tt_E ad A U H := ⟨h.1, h.2.1, h.2.2.kept hS.2.1⟩
theorem tt_E.narrow {ad : Nat → Nat} {A B : Nat → Prop} {U : State} {H : Heap} (h : tt_E ad A U H) (hAB : ∀ q, B q → A q) : tt_E ad B U H := ⟨h.1, h.2.1, h.2.2.narrow hAB⟩
end
section
/-! ===== the code of every method, as blocks of resolved instructions: printed by program out of TURN's names ===== -/
def am_shl : List (List Nat) := [[1, 4, 2, 13, 24, 46, 49, 58, 0], [1, 3, 3, 4, 5, 6, 7, 8, 9, 0, 0, 0, 10, 11, 12], [0, 8], [0, 8], [0, 8], [0, 8], [0, 8], [0, 8], [0, 10], [0, 8], [0, 8], [0, 8], [1, 3, 14, 15, 16, 17, 18, 19, 20, 0, 0, 0, 21, 22, 23], [0, 8], [0, 8], [0, 8], [0, 8], [0, 8], [0, 8], [0, 10], [0, 8], [0, 8], [0, 8], [1, 3, 25, 26, 27, 28, 29, 30, 31, 0, 0, 0, 32, 33, 34], [0, 8], [0, 8], [0, 8], [0, 8], [0, 8], [0, 8], [0, 10], [0, 8], [0, 8], [0, 8], [1, 3, 36, 37, 38, 39, 40, 41, 42, 0, 0, 0, 43, 44, 45], [0, 8], [0, 8], [0, 8], [0, 8], [0, 8], [0, 8], [0, 10], [0, 8], [0, 8], [0, 8], [1, 2, 47, 35, 0, 0], [1, 1, 48, 0, 0, 0, 0, 0], [0, 120], [2, 0, 49, 51, 53, 55], [1, 0, 51, 0, 0], [0, 40], [1, 0, 53, 0, 0], [0, 40], [1, 0, 55, 0, 0], [0, 40], [1, 0, 57, 0, 0], [0, 40], [0, 7], [1, 5, 60, 61, 62, 0, 63, 64, 65, 0, 66, 0, 0, 0, 0, 0, 0, 72, 67, 0, 0, 68, 69, 70, 71], [0, 61], [0, 61], [0, 61], [0, 8], [0, 8], [0, 8], [0, 120], [0, 480], [0, 4], [0, 4], [0, 160], [0, 40], [2, 1, 100, 101, 102, 103, 104, 105, 106]]
noncomputable def am_B0_0 : List Instr := [.ldc 0, .istore 2, .aload 0, .arraylength, .istore 3, .goto_w 5]
noncomputable def am_B0_5 : List Instr := [.iload 2, .iload 3, .if_icmp .ge 20, .aload 0, .iload 2, .iload 1, .iastore, .iinc 2 1, .goto 5]
noncomputable def am_B0_20 : List Instr := [.return_]
noncomputable def am_t0 : List (Nat × List Instr) := [(0, am_B0_0), (5, am_B0_5), (20, am_B0_20)]
noncomputable def am_B1_0 : List Instr := [.iload 0, .iload 1, .if_icmp .gt 9, .iload 0, .goto 10]
noncomputable def am_B1_9 : List Instr := [.iload 1, .goto_w 10]
noncomputable def am_B1_10 : List Instr := [.ret 0]
noncomputable def am_t1 : List (Nat × List Instr) := [(0, am_B1_0), (9, am_B1_9), (10, am_B1_10)]
noncomputable def am_B2_0 : List Instr := [.iload 0, .iload 1, .if_icmp .lt 9, .iload 0, .goto 10]
noncomputable def am_B2_9 : List Instr := [.iload 1, .goto_w 10]
noncomputable def am_B2_10 : List Instr := [.ret 0]
noncomputable def am_t2 : List (Nat × List Instr) := [(0, am_B2_0), (9, am_B2_9), (10, am_B2_10)]
noncomputable def am_B3_0 : List Instr := [.iload 0, .ifCond .ge 9, .iload 0, .ineg, .goto 10]
noncomputable def am_B3_9 : List Instr := [.iload 0, .goto_w 10]
noncomputable def am_B3_10 : List Instr := [.ret 0]
noncomputable def am_t3 : List (Nat × List Instr) := [(0, am_B3_0), (9, am_B3_9), (10, am_B3_10)]
noncomputable def am_B4_0 : List Instr := [.iload 0, .iload 0, .ldc 1, .iushr, .ldc 1431655765, .iand, .isub, .istore 0, .iload 0, .ldc 858993459, .iand, .iload 0, .ldc 2, .iushr, .ldc 858993459, .iand, .iadd, .istore 0, .iload 0, .iload 0, .ldc 4, .iushr, .iadd, .ldc 252645135, .iand, .istore 0, .iload 0, .iload 0, .ldc 8, .iushr, .iadd, .istore 0, .iload 0, .iload 0, .ldc 16, .iushr, .iadd, .istore 0, .iload 0, .ldc 63, .iand, .ret 0]
noncomputable def am_t4 : List (Nat × List Instr) := [(0, am_B4_0)]
noncomputable def am_B5_0 : List Instr := [.aload 0, .getfield 1000, .arraylength, .aload 0, .invokeinterface 6 1, .ishr, .ret 0]
noncomputable def am_t5 : List (Nat × List Instr) := [(0, am_B5_0)]
noncomputable def am_B6_0 : List Instr := [.getstatic 1, .ifCond .eq 13, .aload 0, .getfield 1001, .goto 14]
noncomputable def am_B6_13 : List Instr := [.ldc 1, .goto_w 14]
noncomputable def am_B6_14 : List Instr := [.ret 2]
noncomputable def am_t6 : List (Nat × List Instr) := [(0, am_B6_0), (13, am_B6_13), (14, am_B6_14)]
noncomputable def am_B7_0 : List Instr := [.aload 0, .invokeinterface 8 1, .ifCond .eq 16, .aload 0, .getfield 1000, .iload 1, .invokeinterface 9 2, .ret 3]
noncomputable def am_t7 : List (Nat × List Instr) := [(0, am_B7_0)]
noncomputable def am_B8_0 : List Instr := [.getstatic 1, .ifCond .eq 17, .aload 0, .getfield 1001, .ifCond .ne 17, .ldc 1, .goto 18]
noncomputable def am_B8_17 : List Instr := [.ldc 0, .goto_w 18]
noncomputable def am_B8_18 : List Instr := [.ret 1]
noncomputable def am_t8 : List (Nat × List Instr) := [(0, am_B8_0), (17, am_B8_17), (18, am_B8_18)]
noncomputable def am_B9_0 : List Instr := [.iload 1, .aload 0, .arraylength, .invokeinterface 10 2, .aload 0, .iload 1, .baload, .ldc 255, .iand, .i2c, .ret 3]
noncomputable def am_t9 : List (Nat × List Instr) := [(0, am_B9_0)]
noncomputable def am_B10_0 : List Instr := [.iload 0, .iload 1, .getstatic 2, .invokeinterface 11 3, .pop, .return_]
noncomputable def am_t10 : List (Nat × List Instr) := [(0, am_B10_0)]
noncomputable def am_B11_0 : List Instr := [.iload 0, .ifCond .lt 9, .iload 0, .iload 1, .if_icmp .lt 16, .goto_w 9]
noncomputable def am_B11_16 : List Instr := [.iload 0, .ret 0]
noncomputable def am_t11 : List (Nat × List Instr) := [(0, am_B11_0), (16, am_B11_16)]
noncomputable def am_B12_0 : List Instr := [.iload 1, .invokeinterface 13 1, .ifCond .eq 18, .iload 2, .ldc 0, .ldc 9999, .invokeinterface 14 3, .ifCond .ne 25, .goto_w 18]
noncomputable def am_B12_18 : List Instr := [.aload 0, .sipush (-1000001), .invokeinterface 15 2, .ret 0]
noncomputable def am_B12_25 : List Instr := [.aload 0, .getfield 128, .getfield 96, .iload 1, .iaload, .istore 3, .aload 0, .getfield 128, .getfield 96, .iload 1, .iload 2, .iastore, .iload 3, .ret 0]
noncomputable def am_t12 : List (Nat × List Instr) := [(0, am_B12_0), (18, am_B12_18), (25, am_B12_25)]
noncomputable def am_B13_0 : List Instr := [.iload 0, .ifCond .lt 14, .iload 0, .ldc 8, .if_icmp .ge 14, .ldc 1, .goto 15]
noncomputable def am_B13_14 : List Instr := [.ldc 0, .goto_w 15]
noncomputable def am_B13_15 : List Instr := [.ret 1]
noncomputable def am_t13 : List (Nat × List Instr) := [(0, am_B13_0), (14, am_B13_14), (15, am_B13_15)]
noncomputable def am_B14_0 : List Instr := [.iload 0, .iload 1, .if_icmp .lt 14, .iload 0, .iload 2, .if_icmp .gt 14, .ldc 1, .goto 15]
noncomputable def am_B14_14 : List Instr := [.ldc 0, .goto_w 15]
noncomputable def am_B14_15 : List Instr := [.ret 1]
noncomputable def am_t14 : List (Nat × List Instr) := [(0, am_B14_0), (14, am_B14_14), (15, am_B14_15)]
noncomputable def am_B15_0 : List Instr := [.sipush (-1000001), .iload 1, .isub, .istore 2, .iload 2, .ldc 0, .ldc 6, .invokeinterface 14 3, .ifCond .eq 25, .aload 0, .getfield 133, .iload 2, .dup2, .iaload, .ldc 1, .iadd, .iastore, .goto_w 25]
noncomputable def am_B15_25 : List Instr := [.iload 1, .ret 0]
noncomputable def am_t15 : List (Nat × List Instr) := [(0, am_B15_0), (25, am_B15_25)]
noncomputable def am_B16_0 : List Instr := [.iload 1, .invokeinterface 17 1, .ifCond .eq 26, .iload 2, .invokeinterface 19 1, .ifCond .eq 26, .aload 0, .ldc 13, .iload 1, .iadd, .iload 2, .invokeinterface 20 3, .goto 32]
noncomputable def am_B16_26 : List Instr := [.aload 0, .sipush (-1000001), .invokeinterface 21 2, .goto_w 32]
noncomputable def am_B16_32 : List Instr := [.ret 0]
noncomputable def am_t16 : List (Nat × List Instr) := [(0, am_B16_0), (26, am_B16_26), (32, am_B16_32)]
noncomputable def am_B17_0 : List Instr := [.iload 0, .ldc 0, .ldc 7, .invokeinterface 18 3, .ret 1]
noncomputable def am_t17 : List (Nat × List Instr) := [(0, am_B17_0)]
noncomputable def am_B18_0 : List Instr := [.iload 0, .iload 1, .if_icmp .lt 14, .iload 0, .iload 2, .if_icmp .gt 14, .ldc 1, .goto 15]
noncomputable def am_B18_14 : List Instr := [.ldc 0, .goto_w 15]
noncomputable def am_B18_15 : List Instr := [.ret 1]
noncomputable def am_t18 : List (Nat × List Instr) := [(0, am_B18_0), (14, am_B18_14), (15, am_B18_15)]
noncomputable def am_B19_0 : List Instr := [.iload 0, .ldc 0, .ldc 9999, .invokeinterface 18 3, .ret 1]
noncomputable def am_t19 : List (Nat × List Instr) := [(0, am_B19_0)]
noncomputable def am_B20_0 : List Instr := [.aload 0, .getfield 160, .iload 1, .iaload, .istore 3, .aload 0, .getfield 160, .iload 1, .iload 2, .iastore, .iload 3, .ret 0]
noncomputable def am_t20 : List (Nat × List Instr) := [(0, am_B20_0)]
noncomputable def am_B21_0 : List Instr := [.aload 0, .getfield 164, .sipush (-1000001), .iload 1, .isub, .ldc 1, .iadd, .dup2, .iaload, .ldc 1, .iadd, .iastore, .aload 0, .getfield 164, .ldc 0, .dup2, .iaload, .ldc 1, .iadd, .iastore, .iload 1, .ret 0]
noncomputable def am_t21 : List (Nat × List Instr) := [(0, am_B21_0)]
noncomputable def am_B22_0 : List Instr := [.iload 1, .invokeinterface 13 1, .ifCond .eq 16, .iload 2, .ldc 0, .ldc 2, .invokeinterface 14 3, .ifCond .ne 23, .goto_w 16]
noncomputable def am_B22_16 : List Instr := [.aload 0, .sipush (-1000001), .invokeinterface 15 2, .ret 0]
noncomputable def am_B22_23 : List Instr := [.iload 2, .ifCond .ne 37, .aload 0, .getfield 128, .getfield 96, .iload 1, .iaload, .ret 0]
noncomputable def am_B22_37 : List Instr := [.aload 0, .getfield 128, .invokeinterface 23 1, .iload 2, .ldc 1, .if_icmp .ne 60, .aload 0, .getfield 128, .iload 1, .invokeinterface 26 2, .goto 68]
noncomputable def am_B22_60 : List Instr := [.aload 0, .getfield 128, .iload 1, .invokeinterface 27 2, .goto_w 68]
noncomputable def am_B22_68 : List Instr := [.ret 0]
noncomputable def am_t22 : List (Nat × List Instr) := [(0, am_B22_0), (16, am_B22_16), (23, am_B22_23), (37, am_B22_37), (60, am_B22_60), (68, am_B22_68)]
noncomputable def am_B23_0 : List Instr := [.aload 0, .getfield 106, .ldc 0, .invokeinterface 0 2, .aload 0, .getfield 108, .ldc 0, .invokeinterface 0 2, .ldc 0, .istore 1, .goto_w 18]
noncomputable def am_B23_18 : List Instr := [.iload 1, .aload 0, .getfield 103, .if_icmp .ge 59, .aload 0, .getfield 98, .iload 1, .iaload, .invokeinterface 13 1, .ifCond .eq 53, .aload 0, .getfield 106, .aload 0, .getfield 98, .iload 1, .iaload, .dup2, .iaload, .ldc 1, .iadd, .iastore, .goto_w 53]
noncomputable def am_B23_53 : List Instr := [.iinc 1 1, .goto 18]
noncomputable def am_B23_59 : List Instr := [.ldc 0, .istore 1, .goto_w 61]
noncomputable def am_B23_61 : List Instr := [.iload 1, .aload 0, .getfield 103, .if_icmp .ge 105, .aload 0, .iload 1, .invokeinterface 24 2, .istore 2, .aload 0, .getfield 107, .iload 1, .iload 2, .iastore, .iload 2, .invokeinterface 13 1, .ifCond .eq 99, .aload 0, .getfield 108, .iload 2, .dup2, .iaload, .ldc 1, .iadd, .iastore, .goto_w 99]
noncomputable def am_B23_99 : List Instr := [.iinc 1 1, .goto 61]
noncomputable def am_B23_105 : List Instr := [.return_]
noncomputable def am_t23 : List (Nat × List Instr) := [(0, am_B23_0), (18, am_B23_18), (53, am_B23_53), (59, am_B23_59), (61, am_B23_61), (99, am_B23_99), (105, am_B23_105)]
noncomputable def am_B24_0 : List Instr := [.aload 0, .getfield 98, .iload 1, .iaload, .istore 2, .iload 2, .invokeinterface 13 1, .ifCond .ne 16, .sipush (-1), .ret 0]
noncomputable def am_B24_16 : List Instr := [.iload 2, .istore 3, .aload 0, .iload 1, .iload 2, .invokeinterface 25 3, .istore 4, .ldc 7, .iload 2, .aload 0, .getfield 99, .iload 1, .iaload, .iadd, .invokeinterface 1 2, .istore 5, .ldc 0, .iload 2, .aload 0, .getfield 99, .iload 1, .iaload, .isub, .invokeinterface 2 2, .istore 6, .goto_w 55]
noncomputable def am_B24_55 : List Instr := [.iload 6, .iload 5, .if_icmp .gt 91, .aload 0, .iload 1, .iload 6, .invokeinterface 25 3, .istore 7, .iload 7, .iload 4, .if_icmp .le 85, .iload 6, .istore 3, .iload 7, .istore 4, .goto_w 85]
noncomputable def am_B24_85 : List Instr := [.iinc 6 1, .goto 55]
noncomputable def am_B24_91 : List Instr := [.iload 3, .ret 0]
noncomputable def am_t24 : List (Nat × List Instr) := [(0, am_B24_0), (16, am_B24_16), (55, am_B24_55), (85, am_B24_85), (91, am_B24_91)]
noncomputable def am_B25_0 : List Instr := [.aload 0, .getfield 98, .iload 1, .iaload, .iload 2, .if_icmp .ne 14, .ldc 1, .goto 15]
noncomputable def am_B25_14 : List Instr := [.ldc 0, .goto_w 15]
noncomputable def am_B25_15 : List Instr := [.istore 3, .aload 0, .getfield 106, .iload 2, .iaload, .iload 3, .ifCond .eq 30, .ldc 1, .goto 31]
noncomputable def am_B25_30 : List Instr := [.ldc 0, .goto_w 31]
noncomputable def am_B25_31 : List Instr := [.isub, .istore 4, .iload 4, .ifCond .lt 53, .aload 0, .getfield 96, .iload 2, .iaload, .iload 4, .ldc 1, .iadd, .idiv, .goto 54]
noncomputable def am_B25_53 : List Instr := [.ldc 0, .goto_w 54]
noncomputable def am_B25_54 : List Instr := [.istore 5, .iload 4, .ifCond .ne 70, .aload 0, .getfield 96, .iload 2, .iaload, .goto 71]
noncomputable def am_B25_70 : List Instr := [.ldc 0, .goto_w 71]
noncomputable def am_B25_71 : List Instr := [.istore 6, .aload 0, .getfield 100, .iload 1, .iaload, .istore 7, .iload 7, .ifCond .lt 111, .iload 7, .aload 0, .getfield 103, .if_icmp .ge 111, .aload 0, .getfield 98, .iload 7, .iaload, .iload 2, .if_icmp .ne 111, .ldc 100, .goto 112]
noncomputable def am_B25_111 : List Instr := [.ldc 0, .goto_w 112]
noncomputable def am_B25_112 : List Instr := [.istore 8, .aload 0, .getfield 97, .iload 1, .iaload, .tableswitch 218 1 6 #[160, 163, 169, 180, 197, 207]]
noncomputable def am_B25_160 : List Instr := [.iload 6, .ret 0]
noncomputable def am_B25_163 : List Instr := [.iload 5, .iload 8, .iadd, .ret 0]
noncomputable def am_B25_169 : List Instr := [.iload 5, .iload 8, .iadd, .ldc 5, .iload 4, .imul, .isub, .ret 0]
noncomputable def am_B25_180 : List Instr := [.iload 5, .iload 8, .iadd, .ldc 5, .iload 4, .imul, .isub, .ldc 7, .iload 4, .imul, .iadd, .ret 0]
noncomputable def am_B25_197 : List Instr := [.iload 3, .ifCond .eq 205, .ldc 1, .goto 206]
noncomputable def am_B25_205 : List Instr := [.ldc 0, .goto_w 206]
noncomputable def am_B25_206 : List Instr := [.ret 0]
noncomputable def am_B25_207 : List Instr := [.iload 3, .ifCond .eq 216, .iload 6, .goto 217]
noncomputable def am_B25_216 : List Instr := [.ldc 0, .goto_w 217]
noncomputable def am_B25_217 : List Instr := [.ret 0]
noncomputable def am_B25_218 : List Instr := [.iload 5, .ret 0]
noncomputable def am_t25 : List (Nat × List Instr) := [(0, am_B25_0), (14, am_B25_14), (15, am_B25_15), (30, am_B25_30), (31, am_B25_31), (53, am_B25_53), (54, am_B25_54), (70, am_B25_70), (71, am_B25_71), (111, am_B25_111), (112, am_B25_112), (160, am_B25_160), (163, am_B25_163), (169, am_B25_169), (180, am_B25_180), (197, am_B25_197), (205, am_B25_205), (206, am_B25_206), (207, am_B25_207), (216, am_B25_216), (217, am_B25_217), (218, am_B25_218)]
noncomputable def am_B26_0 : List Instr := [.ldc 0, .istore 2, .ldc 0, .istore 3, .goto_w 4]
noncomputable def am_B26_4 : List Instr := [.iload 3, .aload 0, .getfield 103, .if_icmp .ge 38, .iload 2, .aload 0, .getfield 98, .iload 3, .iaload, .iload 1, .if_icmp .ne 29, .ldc 1, .iload 3, .ishl, .goto 30]
noncomputable def am_B26_29 : List Instr := [.ldc 0, .goto_w 30]
noncomputable def am_B26_30 : List Instr := [.ior, .istore 2, .iinc 3 1, .goto 4]
noncomputable def am_B26_38 : List Instr := [.iload 2, .ret 0]
noncomputable def am_t26 : List (Nat × List Instr) := [(0, am_B26_0), (4, am_B26_4), (29, am_B26_29), (30, am_B26_30), (38, am_B26_38)]
noncomputable def am_B27_0 : List Instr := [.ldc 0, .istore 2, .ldc 0, .istore 3, .goto_w 4]
noncomputable def am_B27_4 : List Instr := [.iload 3, .aload 0, .getfield 103, .if_icmp .ge 38, .iload 2, .aload 0, .getfield 107, .iload 3, .iaload, .iload 1, .if_icmp .ne 29, .ldc 1, .iload 3, .ishl, .goto 30]
noncomputable def am_B27_29 : List Instr := [.ldc 0, .goto_w 30]
noncomputable def am_B27_30 : List Instr := [.ior, .istore 2, .iinc 3 1, .goto 4]
noncomputable def am_B27_38 : List Instr := [.iload 2, .ret 0]
noncomputable def am_t27 : List (Nat × List Instr) := [(0, am_B27_0), (4, am_B27_4), (29, am_B27_29), (30, am_B27_30), (38, am_B27_38)]
noncomputable def am_B28_0 : List Instr := [.iload 1, .invokeinterface 17 1, .ifCond .eq 16, .iload 2, .ldc 0, .ldc 2, .invokeinterface 18 3, .ifCond .ne 23, .goto_w 16]
noncomputable def am_B28_16 : List Instr := [.aload 0, .sipush (-1000001), .invokeinterface 21 2, .ret 0]
noncomputable def am_B28_23 : List Instr := [.aload 0, .invokeinterface 29 1, .iload 2, .ifCond .ne 43, .aload 0, .getfield 160, .ldc 13, .iload 1, .iadd, .iaload, .goto 61]
noncomputable def am_B28_43 : List Instr := [.iload 2, .ldc 1, .if_icmp .ne 56, .aload 0, .iload 1, .invokeinterface 35 2, .goto 61]
noncomputable def am_B28_56 : List Instr := [.aload 0, .iload 1, .invokeinterface 39 2, .goto_w 61]
noncomputable def am_B28_61 : List Instr := [.ret 0]
noncomputable def am_t28 : List (Nat × List Instr) := [(0, am_B28_0), (16, am_B28_16), (23, am_B28_23), (43, am_B28_43), (56, am_B28_56), (61, am_B28_61)]
noncomputable def am_B29_0 : List Instr := [.ldc 0, .istore 1, .goto_w 2]
noncomputable def am_B29_2 : List Instr := [.iload 1, .aload 0, .getfield 160, .ldc 1, .iaload, .if_icmp .ge 41, .aload 0, .getfield 165, .iload 1, .iload 1, .aload 0, .getfield 167, .if_icmp .ne 29, .sipush (-1), .goto 34]
noncomputable def am_B29_29 : List Instr := [.aload 0, .iload 1, .invokeinterface 30 2, .goto_w 34]
noncomputable def am_B29_34 : List Instr := [.iastore, .iinc 1 1, .goto 2]
noncomputable def am_B29_41 : List Instr := [.ldc 0, .istore 1, .goto_w 43]
noncomputable def am_B29_43 : List Instr := [.iload 1, .aload 0, .getfield 160, .ldc 1, .iaload, .if_icmp .ge 105, .aload 0, .getfield 166, .iload 1, .iload 1, .aload 0, .getfield 167, .if_icmp .ne 70, .ldc 0, .goto 98]
noncomputable def am_B29_70 : List Instr := [.aload 0, .getfield 160, .ldc 13, .aload 0, .getfield 165, .iload 1, .iaload, .iadd, .iaload, .aload 0, .aload 0, .getfield 165, .iload 1, .iaload, .invokeinterface 39 2, .invokeinterface 36 1, .idiv, .goto_w 98]
noncomputable def am_B29_98 : List Instr := [.iastore, .iinc 1 1, .goto 43]
noncomputable def am_B29_105 : List Instr := [.return_]
noncomputable def am_t29 : List (Nat × List Instr) := [(0, am_B29_0), (2, am_B29_2), (29, am_B29_29), (34, am_B29_34), (41, am_B29_41), (43, am_B29_43), (70, am_B29_70), (98, am_B29_98), (105, am_B29_105)]
noncomputable def am_B30_0 : List Instr := [.aload 0, .iload 1, .ldc 1, .invokeinterface 31 3, .istore 2, .aload 0, .iload 1, .iload 2, .invokeinterface 33 3, .istore 3, .ldc 0, .istore 4, .goto_w 17]
noncomputable def am_B30_17 : List Instr := [.iload 4, .ldc 8, .if_icmp .ge 62, .aload 0, .iload 1, .iload 4, .invokeinterface 38 3, .ifCond .eq 56, .aload 0, .iload 1, .iload 4, .invokeinterface 33 3, .iload 3, .if_icmp .le 56, .iload 4, .istore 2, .aload 0, .iload 1, .iload 4, .invokeinterface 33 3, .istore 3, .goto_w 56]
noncomputable def am_B30_56 : List Instr := [.iinc 4 1, .goto 17]
noncomputable def am_B30_62 : List Instr := [.iload 2, .ret 0]
noncomputable def am_t30 : List (Nat × List Instr) := [(0, am_B30_0), (17, am_B30_17), (56, am_B30_56), (62, am_B30_62)]
noncomputable def am_B31_0 : List Instr := [.aload 0, .getfield 160, .iload 1, .iload 2, .invokeinterface 32 2, .iaload, .ret 0]
noncomputable def am_t31 : List (Nat × List Instr) := [(0, am_B31_0)]
noncomputable def am_B32_0 : List Instr := [.ldc 21, .ldc 5, .iload 0, .imul, .iadd, .iload 1, .iadd, .ret 0]
noncomputable def am_t32 : List (Nat × List Instr) := [(0, am_B32_0)]
noncomputable def am_B33_0 : List Instr := [.aload 0, .iload 1, .iload 2, .invokeinterface 34 3, .istore 3, .aload 0, .iload 1, .ldc 1, .invokeinterface 31 3, .iload 2, .if_icmp .ne 21, .ldc 1, .goto 22]
noncomputable def am_B33_21 : List Instr := [.ldc 0, .goto_w 22]
noncomputable def am_B33_22 : List Instr := [.istore 4, .aload 0, .iload 1, .ldc 0, .invokeinterface 31 3, .tableswitch 152 1 6 #[68, 86, 94, 106, 118, 129]]
noncomputable def am_B33_68 : List Instr := [.iload 3, .ifCond .ne 84, .aload 0, .getfield 160, .ldc 13, .iload 2, .iadd, .iaload, .goto 85]
noncomputable def am_B33_84 : List Instr := [.ldc 0, .goto_w 85]
noncomputable def am_B33_85 : List Instr := [.ret 0]
noncomputable def am_B33_86 : List Instr := [.aload 0, .iload 1, .iload 2, .iload 3, .invokeinterface 37 4, .ret 0]
noncomputable def am_B33_94 : List Instr := [.aload 0, .iload 1, .iload 2, .iload 3, .invokeinterface 37 4, .ldc 5, .iload 3, .imul, .isub, .ret 0]
noncomputable def am_B33_106 : List Instr := [.aload 0, .iload 1, .iload 2, .iload 3, .invokeinterface 37 4, .ldc 2, .iload 3, .imul, .iadd, .ret 0]
noncomputable def am_B33_118 : List Instr := [.iload 4, .ifCond .eq 127, .ldc 1, .goto 128]
noncomputable def am_B33_127 : List Instr := [.ldc 0, .goto_w 128]
noncomputable def am_B33_128 : List Instr := [.ret 0]
noncomputable def am_B33_129 : List Instr := [.iload 4, .ifCond .eq 150, .iload 3, .ifCond .ne 150, .aload 0, .getfield 160, .ldc 13, .iload 2, .iadd, .iaload, .goto 151]
noncomputable def am_B33_150 : List Instr := [.ldc 0, .goto_w 151]
noncomputable def am_B33_151 : List Instr := [.ret 0]
noncomputable def am_B33_152 : List Instr := [.aload 0, .getfield 160, .ldc 13, .iload 2, .iadd, .iaload, .ldc 1, .iload 3, .iadd, .idiv, .ret 0]
noncomputable def am_t33 : List (Nat × List Instr) := [(0, am_B33_0), (21, am_B33_21), (22, am_B33_22), (68, am_B33_68), (84, am_B33_84), (85, am_B33_85), (86, am_B33_86), (94, am_B33_94), (106, am_B33_106), (118, am_B33_118), (127, am_B33_127), (128, am_B33_128), (129, am_B33_129), (150, am_B33_150), (151, am_B33_151), (152, am_B33_152)]
noncomputable def am_B34_0 : List Instr := [.aload 0, .iload 2, .invokeinterface 35 2, .ldc 1, .iload 1, .ishl, .sipush (-1), .ixor, .iand, .invokeinterface 36 1, .ret 0]
noncomputable def am_t34 : List (Nat × List Instr) := [(0, am_B34_0)]
noncomputable def am_B35_0 : List Instr := [.ldc 0, .istore 2, .ldc 0, .istore 3, .goto_w 4]
noncomputable def am_B35_4 : List Instr := [.iload 3, .aload 0, .getfield 160, .ldc 1, .iaload, .if_icmp .ge 48, .iload 2, .iload 3, .aload 0, .getfield 167, .if_icmp .eq 39, .aload 0, .iload 3, .ldc 1, .invokeinterface 31 3, .iload 1, .if_icmp .ne 39, .ldc 1, .iload 3, .ishl, .goto 40]
noncomputable def am_B35_39 : List Instr := [.ldc 0, .goto_w 40]
noncomputable def am_B35_40 : List Instr := [.ior, .istore 2, .iinc 3 1, .goto 4]
noncomputable def am_B35_48 : List Instr := [.iload 2, .ret 0]
noncomputable def am_t35 : List (Nat × List Instr) := [(0, am_B35_0), (4, am_B35_4), (39, am_B35_39), (40, am_B35_40), (48, am_B35_48)]
noncomputable def am_B36_0 : List Instr := [.ldc 0, .istore 1, .iload 0, .istore 2, .goto_w 4]
noncomputable def am_B36_4 : List Instr := [.iload 2, .ifCond .eq 20, .iinc 1 1, .iload 2, .iload 2, .ldc 1, .isub, .iand, .istore 2, .goto 4]
noncomputable def am_B36_20 : List Instr := [.iload 1, .ret 0]
noncomputable def am_t36 : List (Nat × List Instr) := [(0, am_B36_0), (4, am_B36_4), (20, am_B36_20)]
noncomputable def am_B37_0 : List Instr := [.aload 0, .iload 1, .ldc 3, .invokeinterface 31 3, .istore 4, .iload 4, .ifCond .lt 37, .iload 4, .aload 0, .getfield 167, .if_icmp .eq 37, .aload 0, .iload 4, .ldc 1, .invokeinterface 31 3, .iload 2, .if_icmp .ne 37, .ldc 1, .goto 38]
noncomputable def am_B37_37 : List Instr := [.ldc 0, .goto_w 38]
noncomputable def am_B37_38 : List Instr := [.istore 5, .aload 0, .getfield 160, .ldc 13, .iload 2, .iadd, .iaload, .ldc 1, .iload 3, .iadd, .idiv, .iload 5, .ifCond .eq 63, .ldc 100, .goto 64]
noncomputable def am_B37_63 : List Instr := [.ldc 0, .goto_w 64]
noncomputable def am_B37_64 : List Instr := [.iadd, .ret 0]
noncomputable def am_t37 : List (Nat × List Instr) := [(0, am_B37_0), (37, am_B37_37), (38, am_B37_38), (63, am_B37_63), (64, am_B37_64)]
noncomputable def am_B38_0 : List Instr := [.iload 2, .aload 0, .iload 1, .ldc 1, .invokeinterface 31 3, .isub, .invokeinterface 3 1, .aload 0, .iload 1, .ldc 2, .invokeinterface 31 3, .if_icmp .gt 24, .ldc 1, .goto 25]
noncomputable def am_B38_24 : List Instr := [.ldc 0, .goto_w 25]
noncomputable def am_B38_25 : List Instr := [.ret 1]
noncomputable def am_t38 : List (Nat × List Instr) := [(0, am_B38_0), (24, am_B38_24), (25, am_B38_25)]
noncomputable def am_B39_0 : List Instr := [.ldc 0, .istore 2, .ldc 0, .istore 3, .goto_w 4]
noncomputable def am_B39_4 : List Instr := [.iload 3, .aload 0, .getfield 160, .ldc 1, .iaload, .if_icmp .ge 40, .iload 2, .aload 0, .getfield 165, .iload 3, .iaload, .iload 1, .if_icmp .ne 31, .ldc 1, .iload 3, .ishl, .goto 32]
noncomputable def am_B39_31 : List Instr := [.ldc 0, .goto_w 32]
noncomputable def am_B39_32 : List Instr := [.ior, .istore 2, .iinc 3 1, .goto 4]
noncomputable def am_B39_40 : List Instr := [.iload 2, .ret 0]
noncomputable def am_t39 : List (Nat × List Instr) := [(0, am_B39_0), (4, am_B39_4), (31, am_B39_31), (32, am_B39_32), (40, am_B39_40)]
noncomputable def am_B40_0 : List Instr := [.iload 1, .invokeinterface 41 1, .ifCond .eq 14, .iload 2, .invokeinterface 13 1, .ifCond .ne 21, .goto_w 14]
noncomputable def am_B40_14 : List Instr := [.aload 0, .sipush (-1000001), .invokeinterface 15 2, .ret 0]
noncomputable def am_B40_21 : List Instr := [.aload 0, .getfield 128, .iload 1, .iload 2, .invokeinterface 42 3, .istore 3, .iload 3, .sipush (-1), .if_icmp .ne 45, .aload 0, .sipush (-1000002), .invokeinterface 15 2, .goto 46]
noncomputable def am_B40_45 : List Instr := [.iload 3, .goto_w 46]
noncomputable def am_B40_46 : List Instr := [.ret 0]
noncomputable def am_t40 : List (Nat × List Instr) := [(0, am_B40_0), (14, am_B40_14), (21, am_B40_21), (45, am_B40_45), (46, am_B40_46)]
noncomputable def am_B41_0 : List Instr := [.iload 0, .ldc 0, .ldc 6, .invokeinterface 14 3, .ret 1]
noncomputable def am_t41 : List (Nat × List Instr) := [(0, am_B41_0)]
noncomputable def am_B42_0 : List Instr := [.aload 0, .getfield 103, .istore 3, .iload 3, .ldc 8, .if_icmp .lt 13, .sipush (-1), .ret 0]
noncomputable def am_B42_13 : List Instr := [.aload 0, .getfield 97, .iload 3, .iload 1, .iastore, .aload 0, .getfield 98, .iload 3, .iload 2, .iastore, .aload 0, .getfield 99, .iload 3, .ldc 1, .iastore, .aload 0, .getfield 100, .iload 3, .sipush (-1), .iastore, .aload 0, .getfield 101, .iload 3, .ldc 0, .iastore, .aload 0, .iload 3, .ldc 1, .iadd, .putfield 103, .iload 3, .ret 0]
noncomputable def am_t42 : List (Nat × List Instr) := [(0, am_B42_0), (13, am_B42_13)]
noncomputable def am_B43_0 : List Instr := [.iload 1, .invokeinterface 44 1, .ifCond .eq 14, .iload 2, .invokeinterface 17 1, .ifCond .ne 21, .goto_w 14]
noncomputable def am_B43_14 : List Instr := [.aload 0, .sipush (-1000001), .invokeinterface 21 2, .ret 0]
noncomputable def am_B43_21 : List Instr := [.aload 0, .getfield 160, .ldc 1, .iaload, .ldc 8, .if_icmp .ne 41, .aload 0, .sipush (-1000002), .invokeinterface 21 2, .goto 49]
noncomputable def am_B43_41 : List Instr := [.aload 0, .iload 1, .iload 2, .ldc 1, .sipush (-1), .invokeinterface 45 5, .goto_w 49]
noncomputable def am_B43_49 : List Instr := [.ret 0]
noncomputable def am_t43 : List (Nat × List Instr) := [(0, am_B43_0), (14, am_B43_14), (21, am_B43_21), (41, am_B43_41), (49, am_B43_49)]
noncomputable def am_B44_0 : List Instr := [.iload 0, .ldc 0, .ldc 6, .invokeinterface 18 3, .ret 1]
noncomputable def am_t44 : List (Nat × List Instr) := [(0, am_B44_0)]
noncomputable def am_B45_0 : List Instr := [.aload 0, .getfield 160, .ldc 1, .iaload, .istore 5, .aload 0, .getfield 160, .iload 5, .ldc 0, .invokeinterface 32 2, .iload 1, .iastore, .aload 0, .getfield 160, .iload 5, .ldc 1, .invokeinterface 32 2, .iload 2, .iastore, .aload 0, .getfield 160, .iload 5, .ldc 2, .invokeinterface 32 2, .iload 3, .iastore, .aload 0, .getfield 160, .iload 5, .ldc 3, .invokeinterface 32 2, .iload 4, .iastore, .aload 0, .getfield 160, .iload 5, .ldc 4, .invokeinterface 32 2, .ldc 0, .iastore, .aload 0, .getfield 160, .ldc 1, .dup2, .iaload, .ldc 1, .iadd, .iastore, .iload 5, .ret 0]
noncomputable def am_t45 : List (Nat × List Instr) := [(0, am_B45_0)]
noncomputable def am_B46_0 : List Instr := [.aload 0, .iload 1, .invokeinterface 47 2, .ifCond .eq 18, .iload 2, .ldc 0, .ldc 7, .invokeinterface 14 3, .ifCond .ne 25, .goto_w 18]
noncomputable def am_B46_18 : List Instr := [.aload 0, .sipush (-1000001), .invokeinterface 15 2, .ret 0]
noncomputable def am_B46_25 : List Instr := [.iload 2, .ldc 4, .if_icmp .gt 40, .aload 0, .getfield 128, .iload 1, .iload 2, .invokeinterface 48 3, .ret 0]
noncomputable def am_B46_40 : List Instr := [.aload 0, .getfield 128, .invokeinterface 23 1, .iload 2, .ldc 5, .if_icmp .ne 62, .aload 0, .getfield 128, .getfield 107, .iload 1, .iaload, .ret 0]
noncomputable def am_B46_62 : List Instr := [.iload 2, .ldc 6, .if_icmp .ne 77, .aload 0, .getfield 128, .iload 1, .invokeinterface 49 2, .ret 0]
noncomputable def am_B46_77 : List Instr := [.aload 0, .getfield 128, .iload 1, .invokeinterface 51 2, .ifCond .eq 92, .ldc 1, .goto 93]
noncomputable def am_B46_92 : List Instr := [.ldc 0, .goto_w 93]
noncomputable def am_B46_93 : List Instr := [.ret 0]
noncomputable def am_t46 : List (Nat × List Instr) := [(0, am_B46_0), (18, am_B46_18), (25, am_B46_25), (40, am_B46_40), (62, am_B46_62), (77, am_B46_77), (92, am_B46_92), (93, am_B46_93)]
noncomputable def am_B47_0 : List Instr := [.iload 1, .ldc 0, .aload 0, .getfield 128, .getfield 103, .ldc 1, .isub, .invokeinterface 14 3, .ret 1]
noncomputable def am_t47 : List (Nat × List Instr) := [(0, am_B47_0)]
noncomputable def am_B48_0 : List Instr := [.iload 2, .tableswitch 60 0 3 #[32, 39, 46, 53]]
noncomputable def am_B48_32 : List Instr := [.aload 0, .getfield 97, .iload 1, .iaload, .ret 0]
noncomputable def am_B48_39 : List Instr := [.aload 0, .getfield 98, .iload 1, .iaload, .ret 0]
noncomputable def am_B48_46 : List Instr := [.aload 0, .getfield 99, .iload 1, .iaload, .ret 0]
noncomputable def am_B48_53 : List Instr := [.aload 0, .getfield 100, .iload 1, .iaload, .ret 0]
noncomputable def am_B48_60 : List Instr := [.aload 0, .getfield 101, .iload 1, .iaload, .ret 0]
noncomputable def am_t48 : List (Nat × List Instr) := [(0, am_B48_0), (32, am_B48_32), (39, am_B48_39), (46, am_B48_46), (53, am_B48_53), (60, am_B48_60)]
noncomputable def am_B49_0 : List Instr := [.aload 0, .getfield 107, .iload 1, .iaload, .istore 2, .iload 2, .invokeinterface 13 1, .ifCond .eq 32, .aload 0, .getfield 96, .iload 2, .iaload, .aload 0, .getfield 108, .iload 2, .iaload, .invokeinterface 50 2, .goto 33]
noncomputable def am_B49_32 : List Instr := [.ldc 0, .goto_w 33]
noncomputable def am_B49_33 : List Instr := [.ret 0]
noncomputable def am_t49 : List (Nat × List Instr) := [(0, am_B49_0), (32, am_B49_32), (33, am_B49_33)]
noncomputable def am_B50_0 : List Instr := [.iload 1, .ifCond .le 10, .iload 0, .iload 1, .idiv, .goto 11]
noncomputable def am_B50_10 : List Instr := [.ldc 0, .goto_w 11]
noncomputable def am_B50_11 : List Instr := [.ret 0]
noncomputable def am_t50 : List (Nat × List Instr) := [(0, am_B50_0), (10, am_B50_10), (11, am_B50_11)]
noncomputable def am_B51_0 : List Instr := [.aload 0, .iload 1, .invokeinterface 49 2, .istore 2, .ldc 0, .istore 3, .goto_w 8]
noncomputable def am_B51_8 : List Instr := [.iload 3, .ldc 8, .if_icmp .ge 53, .iload 3, .aload 0, .getfield 107, .iload 1, .iaload, .if_icmp .eq 47, .aload 0, .getfield 96, .iload 3, .iaload, .aload 0, .getfield 108, .iload 3, .iaload, .ldc 1, .iadd, .invokeinterface 50 2, .iload 2, .if_icmp .le 47, .ldc 1, .ret 1]
noncomputable def am_B51_47 : List Instr := [.iinc 3 1, .goto 8]
noncomputable def am_B51_53 : List Instr := [.ldc 0, .ret 1]
noncomputable def am_t51 : List (Nat × List Instr) := [(0, am_B51_0), (8, am_B51_8), (47, am_B51_47), (53, am_B51_53)]
noncomputable def am_B52_0 : List Instr := [.aload 0, .iload 1, .invokeinterface 53 2, .ifCond .eq 18, .iload 2, .ldc 0, .ldc 7, .invokeinterface 18 3, .ifCond .ne 25, .goto_w 18]
noncomputable def am_B52_18 : List Instr := [.aload 0, .sipush (-1000001), .invokeinterface 21 2, .ret 0]
noncomputable def am_B52_25 : List Instr := [.aload 0, .invokeinterface 29 1, .iload 2, .tableswitch 84 5 7 #[56, 63, 70]]
noncomputable def am_B52_56 : List Instr := [.aload 0, .getfield 165, .iload 1, .iaload, .ret 0]
noncomputable def am_B52_63 : List Instr := [.aload 0, .getfield 166, .iload 1, .iaload, .ret 0]
noncomputable def am_B52_70 : List Instr := [.aload 0, .iload 1, .invokeinterface 54 2, .ifCond .eq 82, .ldc 1, .goto 83]
noncomputable def am_B52_82 : List Instr := [.ldc 0, .goto_w 83]
noncomputable def am_B52_83 : List Instr := [.ret 0]
noncomputable def am_B52_84 : List Instr := [.aload 0, .iload 1, .iload 2, .invokeinterface 31 3, .ret 0]
noncomputable def am_t52 : List (Nat × List Instr) := [(0, am_B52_0), (18, am_B52_18), (25, am_B52_25), (56, am_B52_56), (63, am_B52_63), (70, am_B52_70), (82, am_B52_82), (83, am_B52_83), (84, am_B52_84)]
noncomputable def am_B53_0 : List Instr := [.iload 1, .ldc 0, .aload 0, .getfield 160, .ldc 1, .iaload, .ldc 1, .isub, .invokeinterface 18 3, .ret 1]
noncomputable def am_t53 : List (Nat × List Instr) := [(0, am_B53_0)]
noncomputable def am_B54_0 : List Instr := [.ldc 0, .istore 2, .ldc 0, .istore 3, .goto_w 4]
noncomputable def am_B54_4 : List Instr := [.iload 3, .ldc 8, .if_icmp .ge 65, .iload 2, .ifCond .ne 53, .iload 3, .aload 0, .getfield 165, .iload 1, .iaload, .if_icmp .eq 57, .aload 0, .getfield 160, .ldc 13, .iload 3, .iadd, .iaload, .ldc 1, .aload 0, .iload 3, .invokeinterface 39 2, .invokeinterface 36 1, .iadd, .idiv, .aload 0, .getfield 166, .iload 1, .iaload, .if_icmp .le 57, .goto_w 53]
noncomputable def am_B54_53 : List Instr := [.ldc 1, .goto 58]
noncomputable def am_B54_57 : List Instr := [.ldc 0, .goto_w 58]
noncomputable def am_B54_58 : List Instr := [.istore 2, .iinc 3 1, .goto 4]
noncomputable def am_B54_65 : List Instr := [.iload 2, .ret 1]
noncomputable def am_t54 : List (Nat × List Instr) := [(0, am_B54_0), (4, am_B54_4), (53, am_B54_53), (57, am_B54_57), (58, am_B54_58), (65, am_B54_65)]
noncomputable def am_B55_0 : List Instr := [.aload 0, .iload 1, .invokeinterface 47 2, .ifCond .eq 21, .aload 0, .getfield 128, .iload 1, .iload 2, .iload 3, .invokeinterface 56 4, .ifCond .ne 28, .goto_w 21]
noncomputable def am_B55_21 : List Instr := [.aload 0, .sipush (-1000001), .invokeinterface 15 2, .ret 0]
noncomputable def am_B55_28 : List Instr := [.aload 0, .getfield 128, .iload 1, .iload 2, .invokeinterface 48 3, .istore 4, .aload 0, .getfield 128, .iload 1, .iload 2, .iload 3, .invokeinterface 57 4, .iload 4, .ret 0]
noncomputable def am_t55 : List (Nat × List Instr) := [(0, am_B55_0), (21, am_B55_21), (28, am_B55_28)]
noncomputable def am_B56_0 : List Instr := [.iload 2, .tableswitch 87 0 4 #[36, 41, 46, 54, 79]]
noncomputable def am_B56_36 : List Instr := [.iload 3, .invokeinterface 41 1, .ret 1]
noncomputable def am_B56_41 : List Instr := [.iload 3, .invokeinterface 13 1, .ret 1]
noncomputable def am_B56_46 : List Instr := [.iload 3, .ldc 0, .ldc 7, .invokeinterface 14 3, .ret 1]
noncomputable def am_B56_54 : List Instr := [.iload 3, .sipush (-1), .aload 0, .getfield 103, .ldc 1, .isub, .invokeinterface 14 3, .ifCond .eq 77, .iload 3, .iload 1, .if_icmp .eq 77, .ldc 1, .goto 78]
noncomputable def am_B56_77 : List Instr := [.ldc 0, .goto_w 78]
noncomputable def am_B56_78 : List Instr := [.ret 1]
noncomputable def am_B56_79 : List Instr := [.iload 3, .ldc 0, .ldc 99999, .invokeinterface 14 3, .ret 1]
noncomputable def am_B56_87 : List Instr := [.ldc 0, .ret 1]
noncomputable def am_t56 : List (Nat × List Instr) := [(0, am_B56_0), (36, am_B56_36), (41, am_B56_41), (46, am_B56_46), (54, am_B56_54), (77, am_B56_77), (78, am_B56_78), (79, am_B56_79), (87, am_B56_87)]
noncomputable def am_B57_0 : List Instr := [.iload 2, .tableswitch 72 0 3 #[32, 42, 52, 62]]
noncomputable def am_B57_32 : List Instr := [.aload 0, .getfield 97, .iload 1, .iload 3, .iastore, .goto 79]
noncomputable def am_B57_42 : List Instr := [.aload 0, .getfield 98, .iload 1, .iload 3, .iastore, .goto 79]
noncomputable def am_B57_52 : List Instr := [.aload 0, .getfield 99, .iload 1, .iload 3, .iastore, .goto 79]
noncomputable def am_B57_62 : List Instr := [.aload 0, .getfield 100, .iload 1, .iload 3, .iastore, .goto 79]
noncomputable def am_B57_72 : List Instr := [.aload 0, .getfield 101, .iload 1, .iload 3, .iastore, .goto_w 79]
noncomputable def am_B57_79 : List Instr := [.return_]
noncomputable def am_t57 : List (Nat × List Instr) := [(0, am_B57_0), (32, am_B57_32), (42, am_B57_42), (52, am_B57_52), (62, am_B57_62), (72, am_B57_72), (79, am_B57_79)]
noncomputable def am_B58_0 : List Instr := [.aload 0, .iload 1, .invokeinterface 53 2, .ifCond .eq 31, .aload 0, .iload 1, .iload 2, .iload 3, .invokeinterface 59 4, .ifCond .eq 31, .aload 0, .iload 1, .iload 2, .invokeinterface 32 2, .iload 3, .invokeinterface 20 3, .goto 37]
noncomputable def am_B58_31 : List Instr := [.aload 0, .sipush (-1000001), .invokeinterface 21 2, .goto_w 37]
noncomputable def am_B58_37 : List Instr := [.ret 0]
noncomputable def am_t58 : List (Nat × List Instr) := [(0, am_B58_0), (31, am_B58_31), (37, am_B58_37)]
noncomputable def am_B59_0 : List Instr := [.iload 2, .tableswitch 78 0 4 #[36, 41, 41, 46, 70]]
noncomputable def am_B59_36 : List Instr := [.iload 3, .invokeinterface 44 1, .ret 1]
noncomputable def am_B59_41 : List Instr := [.iload 3, .invokeinterface 17 1, .ret 1]
noncomputable def am_B59_46 : List Instr := [.iload 3, .sipush (-1), .if_icmp .eq 64, .aload 0, .iload 3, .invokeinterface 53 2, .ifCond .eq 68, .iload 3, .iload 1, .if_icmp .eq 68, .goto_w 64]
noncomputable def am_B59_64 : List Instr := [.ldc 1, .goto 69]
noncomputable def am_B59_68 : List Instr := [.ldc 0, .goto_w 69]
noncomputable def am_B59_69 : List Instr := [.ret 1]
noncomputable def am_B59_70 : List Instr := [.iload 3, .ldc 0, .ldc 99999, .invokeinterface 18 3, .ret 1]
noncomputable def am_B59_78 : List Instr := [.ldc 0, .ret 1]
noncomputable def am_t59 : List (Nat × List Instr) := [(0, am_B59_0), (36, am_B59_36), (41, am_B59_41), (46, am_B59_46), (64, am_B59_64), (68, am_B59_68), (69, am_B59_69), (70, am_B59_70), (78, am_B59_78)]
noncomputable def am_B60_0 : List Instr := [.aload 0, .iload 1, .invokeinterface 47 2, .ifCond .eq 15, .iload 2, .invokeinterface 13 1, .ifCond .ne 22, .goto_w 15]
noncomputable def am_B60_15 : List Instr := [.aload 0, .sipush (-1000001), .invokeinterface 15 2, .ret 0]
noncomputable def am_B60_22 : List Instr := [.aload 0, .getfield 128, .iload 1, .iload 2, .invokeinterface 61 3, .ifCond .ne 41, .aload 0, .sipush (-1000004), .invokeinterface 15 2, .ret 0]
noncomputable def am_B60_41 : List Instr := [.aload 0, .getfield 128, .invokeinterface 23 1, .aload 0, .getfield 128, .iload 1, .iload 2, .invokeinterface 62 3, .ret 0]
noncomputable def am_t60 : List (Nat × List Instr) := [(0, am_B60_0), (15, am_B60_15), (22, am_B60_22), (41, am_B60_41)]
noncomputable def am_B61_0 : List Instr := [.aload 0, .getfield 98, .iload 1, .iaload, .iload 2, .isub, .invokeinterface 3 1, .aload 0, .getfield 99, .iload 1, .iaload, .if_icmp .gt 24, .ldc 1, .goto 25]
noncomputable def am_B61_24 : List Instr := [.ldc 0, .goto_w 25]
noncomputable def am_B61_25 : List Instr := [.ret 1]
noncomputable def am_t61 : List (Nat × List Instr) := [(0, am_B61_0), (24, am_B61_24), (25, am_B61_25)]
noncomputable def am_B62_0 : List Instr := [.aload 0, .getfield 106, .iload 2, .iaload, .aload 0, .getfield 98, .iload 1, .iaload, .iload 2, .if_icmp .ne 20, .ldc 1, .goto 21]
noncomputable def am_B62_20 : List Instr := [.ldc 0, .goto_w 21]
noncomputable def am_B62_21 : List Instr := [.isub, .ret 0]
noncomputable def am_t62 : List (Nat × List Instr) := [(0, am_B62_0), (20, am_B62_20), (21, am_B62_21)]
noncomputable def am_B63_0 : List Instr := [.aload 0, .iload 1, .invokeinterface 53 2, .ifCond .eq 15, .iload 2, .invokeinterface 17 1, .ifCond .ne 22, .goto_w 15]
noncomputable def am_B63_15 : List Instr := [.aload 0, .sipush (-1000001), .invokeinterface 21 2, .ret 0]
noncomputable def am_B63_22 : List Instr := [.aload 0, .iload 1, .iload 2, .invokeinterface 38 3, .ifCond .eq 40, .aload 0, .iload 1, .iload 2, .invokeinterface 34 3, .goto 46]
noncomputable def am_B63_40 : List Instr := [.aload 0, .sipush (-1000004), .invokeinterface 21 2, .goto_w 46]
noncomputable def am_B63_46 : List Instr := [.ret 0]
noncomputable def am_t63 : List (Nat × List Instr) := [(0, am_B63_0), (15, am_B63_15), (22, am_B63_22), (40, am_B63_40), (46, am_B63_46)]
noncomputable def am_B64_0 : List Instr := [.aload 0, .iload 1, .invokeinterface 47 2, .ifCond .eq 15, .iload 2, .invokeinterface 13 1, .ifCond .ne 22, .goto_w 15]
noncomputable def am_B64_15 : List Instr := [.aload 0, .sipush (-1000001), .invokeinterface 15 2, .ret 0]
noncomputable def am_B64_22 : List Instr := [.aload 0, .getfield 128, .iload 1, .iload 2, .invokeinterface 61 3, .ifCond .ne 41, .aload 0, .sipush (-1000004), .invokeinterface 15 2, .ret 0]
noncomputable def am_B64_41 : List Instr := [.aload 0, .getfield 128, .invokeinterface 23 1, .aload 0, .getfield 128, .iload 1, .iload 2, .invokeinterface 25 3, .ret 0]
noncomputable def am_t64 : List (Nat × List Instr) := [(0, am_B64_0), (15, am_B64_15), (22, am_B64_22), (41, am_B64_41)]
noncomputable def am_B65_0 : List Instr := [.aload 0, .iload 1, .invokeinterface 53 2, .ifCond .eq 15, .iload 2, .invokeinterface 17 1, .ifCond .ne 22, .goto_w 15]
noncomputable def am_B65_15 : List Instr := [.aload 0, .sipush (-1000001), .invokeinterface 21 2, .ret 0]
noncomputable def am_B65_22 : List Instr := [.aload 0, .iload 1, .iload 2, .invokeinterface 38 3, .ifCond .eq 40, .aload 0, .iload 1, .iload 2, .invokeinterface 33 3, .goto 46]
noncomputable def am_B65_40 : List Instr := [.aload 0, .sipush (-1000004), .invokeinterface 21 2, .goto_w 46]
noncomputable def am_B65_46 : List Instr := [.ret 0]
noncomputable def am_t65 : List (Nat × List Instr) := [(0, am_B65_0), (15, am_B65_15), (22, am_B65_22), (40, am_B65_40), (46, am_B65_46)]
noncomputable def am_B66_0 : List Instr := [.iload 1, .ldc 1, .ldc 60, .invokeinterface 14 3, .ifCond .ne 17, .aload 0, .sipush (-1000001), .invokeinterface 15 2, .ret 0]
noncomputable def am_B66_17 : List Instr := [.aload 0, .getfield 128, .getfield 104, .ldc 99999, .iload 1, .isub, .if_icmp .le 38, .aload 0, .sipush (-1000005), .invokeinterface 15 2, .ret 0]
noncomputable def am_B66_38 : List Instr := [.aload 0, .getfield 128, .iload 1, .invokeinterface 67 2, .aload 0, .getfield 128, .invokeinterface 68 1, .ret 0]
noncomputable def am_t66 : List (Nat × List Instr) := [(0, am_B66_0), (17, am_B66_17), (38, am_B66_38)]
noncomputable def am_B67_0 : List Instr := [.ldc 0, .istore 2, .goto_w 2]
noncomputable def am_B67_2 : List Instr := [.iload 2, .iload 1, .if_icmp .ge 120, .aload 0, .invokeinterface 23 1, .ldc 0, .istore 3, .goto_w 13]
noncomputable def am_B67_13 : List Instr := [.iload 3, .aload 0, .getfield 103, .if_icmp .ge 50, .aload 0, .getfield 101, .iload 3, .ldc 99999, .aload 0, .getfield 101, .iload 3, .iaload, .aload 0, .iload 3, .invokeinterface 49 2, .iadd, .invokeinterface 1 2, .iastore, .iinc 3 1, .goto 13]
noncomputable def am_B67_50 : List Instr := [.ldc 0, .istore 3, .goto_w 52]
noncomputable def am_B67_52 : List Instr := [.iload 3, .aload 0, .getfield 103, .if_icmp .ge 99, .aload 0, .getfield 97, .iload 3, .iaload, .ldc 5, .if_icmp .eq 93, .aload 0, .getfield 97, .iload 3, .iaload, .ldc 6, .if_icmp .eq 93, .aload 0, .getfield 98, .iload 3, .aload 0, .getfield 107, .iload 3, .iaload, .iastore, .goto_w 93]
noncomputable def am_B67_93 : List Instr := [.iinc 3 1, .goto 52]
noncomputable def am_B67_99 : List Instr := [.aload 0, .ldc 99999, .aload 0, .getfield 104, .ldc 1, .iadd, .invokeinterface 1 2, .putfield 104, .iinc 2 1, .goto 2]
noncomputable def am_B67_120 : List Instr := [.return_]
noncomputable def am_t67 : List (Nat × List Instr) := [(0, am_B67_0), (2, am_B67_2), (13, am_B67_13), (50, am_B67_50), (52, am_B67_52), (93, am_B67_93), (99, am_B67_99), (120, am_B67_120)]
noncomputable def am_B68_0 : List Instr := [.ldc 0, .istore 1, .ldc 0, .istore 2, .goto_w 4]
noncomputable def am_B68_4 : List Instr := [.iload 2, .aload 0, .getfield 103, .if_icmp .ge 27, .iload 1, .aload 0, .getfield 101, .iload 2, .iaload, .iadd, .istore 1, .iinc 2 1, .goto 4]
noncomputable def am_B68_27 : List Instr := [.iload 1, .ret 0]
noncomputable def am_t68 : List (Nat × List Instr) := [(0, am_B68_0), (4, am_B68_4), (27, am_B68_27)]
noncomputable def am_B69_0 : List Instr := [.iload 1, .ldc 1, .ldc 60, .invokeinterface 18 3, .ifCond .ne 17, .aload 0, .sipush (-1000001), .invokeinterface 21 2, .ret 0]
noncomputable def am_B69_17 : List Instr := [.aload 0, .getfield 160, .ldc 0, .iaload, .iload 1, .iadd, .ldc 99999, .if_icmp .le 37, .aload 0, .sipush (-1000005), .invokeinterface 21 2, .ret 0]
noncomputable def am_B69_37 : List Instr := [.aload 0, .iload 1, .invokeinterface 70 2, .aload 0, .invokeinterface 72 1, .ret 0]
noncomputable def am_t69 : List (Nat × List Instr) := [(0, am_B69_0), (17, am_B69_17), (37, am_B69_37)]
noncomputable def am_B70_0 : List Instr := [.ldc 0, .istore 2, .goto_w 2]
noncomputable def am_B70_2 : List Instr := [.iload 2, .iload 1, .if_icmp .ge 17, .aload 0, .invokeinterface 71 1, .iinc 2 1, .goto 2]
noncomputable def am_B70_17 : List Instr := [.return_]
noncomputable def am_t70 : List (Nat × List Instr) := [(0, am_B70_0), (2, am_B70_2), (17, am_B70_17)]
noncomputable def am_B71_0 : List Instr := [.aload 0, .invokeinterface 29 1, .ldc 0, .istore 1, .goto_w 6]
noncomputable def am_B71_6 : List Instr := [.iload 1, .aload 0, .getfield 160, .ldc 1, .iaload, .if_icmp .ge 114, .aload 0, .getfield 160, .iload 1, .ldc 4, .invokeinterface 32 2, .ldc 99999, .aload 0, .iload 1, .ldc 4, .invokeinterface 31 3, .aload 0, .getfield 166, .iload 1, .iaload, .iadd, .invokeinterface 1 2, .iastore, .iload 1, .aload 0, .getfield 167, .if_icmp .eq 73, .aload 0, .iload 1, .ldc 0, .invokeinterface 31 3, .ldc 5, .if_icmp .eq 73, .aload 0, .iload 1, .ldc 0, .invokeinterface 31 3, .ldc 6, .if_icmp .ne 77, .goto_w 73]
noncomputable def am_B71_73 : List Instr := [.ldc 1, .goto 78]
noncomputable def am_B71_77 : List Instr := [.ldc 0, .goto_w 78]
noncomputable def am_B71_78 : List Instr := [.istore 2, .aload 0, .getfield 160, .iload 1, .ldc 1, .invokeinterface 32 2, .iload 2, .ifCond .eq 101, .aload 0, .iload 1, .ldc 1, .invokeinterface 31 3, .goto 107]
noncomputable def am_B71_101 : List Instr := [.aload 0, .getfield 165, .iload 1, .iaload, .goto_w 107]
noncomputable def am_B71_107 : List Instr := [.iastore, .iinc 1 1, .goto 6]
noncomputable def am_B71_114 : List Instr := [.aload 0, .getfield 160, .ldc 0, .dup2, .iaload, .ldc 1, .iadd, .iastore, .return_]
noncomputable def am_t71 : List (Nat × List Instr) := [(0, am_B71_0), (6, am_B71_6), (73, am_B71_73), (77, am_B71_77), (78, am_B71_78), (101, am_B71_101), (107, am_B71_107), (114, am_B71_114)]
noncomputable def am_B72_0 : List Instr := [.ldc 0, .istore 1, .ldc 0, .istore 2, .goto_w 4]
noncomputable def am_B72_4 : List Instr := [.iload 2, .aload 0, .getfield 160, .ldc 1, .iaload, .if_icmp .ge 29, .iload 1, .aload 0, .iload 2, .ldc 4, .invokeinterface 31 3, .iadd, .istore 1, .iinc 2 1, .goto 4]
noncomputable def am_B72_29 : List Instr := [.iload 1, .ret 0]
noncomputable def am_t72 : List (Nat × List Instr) := [(0, am_B72_0), (4, am_B72_4), (29, am_B72_29)]
noncomputable def am_B73_0 : List Instr := [.iload 1, .ldc 0, .ldc 5, .invokeinterface 14 3, .ifCond .ne 16, .aload 0, .sipush (-1000001), .invokeinterface 15 2, .ret 0]
noncomputable def am_B73_16 : List Instr := [.aload 0, .getfield 128, .invokeinterface 23 1, .iload 1, .tableswitch 100 0 4 #[60, 68, 76, 84, 92]]
noncomputable def am_B73_60 : List Instr := [.aload 0, .getfield 128, .getfield 104, .ret 0]
noncomputable def am_B73_68 : List Instr := [.aload 0, .getfield 128, .invokeinterface 68 1, .ret 0]
noncomputable def am_B73_76 : List Instr := [.aload 0, .getfield 128, .invokeinterface 74 1, .ret 0]
noncomputable def am_B73_84 : List Instr := [.aload 0, .getfield 128, .invokeinterface 75 1, .ret 0]
noncomputable def am_B73_92 : List Instr := [.aload 0, .getfield 128, .invokeinterface 76 1, .ret 0]
noncomputable def am_B73_100 : List Instr := [.aload 0, .getfield 128, .invokeinterface 77 1, .ret 0]
noncomputable def am_t73 : List (Nat × List Instr) := [(0, am_B73_0), (16, am_B73_16), (60, am_B73_60), (68, am_B73_68), (76, am_B73_76), (84, am_B73_84), (92, am_B73_92), (100, am_B73_100)]
noncomputable def am_B74_0 : List Instr := [.ldc 0, .istore 1, .ldc 0, .istore 2, .goto_w 4]
noncomputable def am_B74_4 : List Instr := [.iload 2, .aload 0, .getfield 103, .if_icmp .ge 36, .iload 1, .aload 0, .iload 2, .invokeinterface 51 2, .ifCond .eq 27, .ldc 1, .iload 2, .ishl, .goto 28]
noncomputable def am_B74_27 : List Instr := [.ldc 0, .goto_w 28]
noncomputable def am_B74_28 : List Instr := [.ior, .istore 1, .iinc 2 1, .goto 4]
noncomputable def am_B74_36 : List Instr := [.iload 1, .ret 0]
noncomputable def am_t74 : List (Nat × List Instr) := [(0, am_B74_0), (4, am_B74_4), (27, am_B74_27), (28, am_B74_28), (36, am_B74_36)]
noncomputable def am_B75_0 : List Instr := [.ldc 0, .istore 1, .ldc 0, .istore 2, .goto_w 4]
noncomputable def am_B75_4 : List Instr := [.iload 2, .ldc 8, .if_icmp .ge 35, .iload 1, .aload 0, .getfield 108, .iload 2, .iaload, .ifCond .le 26, .ldc 1, .iload 2, .ishl, .goto 27]
noncomputable def am_B75_26 : List Instr := [.ldc 0, .goto_w 27]
noncomputable def am_B75_27 : List Instr := [.ior, .istore 1, .iinc 2 1, .goto 4]
noncomputable def am_B75_35 : List Instr := [.iload 1, .ret 0]
noncomputable def am_t75 : List (Nat × List Instr) := [(0, am_B75_0), (4, am_B75_4), (26, am_B75_26), (27, am_B75_27), (35, am_B75_35)]
noncomputable def am_B76_0 : List Instr := [.ldc 0, .istore 1, .ldc 0, .istore 2, .goto_w 4]
noncomputable def am_B76_4 : List Instr := [.iload 2, .aload 0, .getfield 103, .if_icmp .ge 43, .iload 1, .aload 0, .getfield 107, .iload 2, .iaload, .aload 0, .getfield 98, .iload 2, .iaload, .if_icmp .eq 34, .ldc 1, .iload 2, .ishl, .goto 35]
noncomputable def am_B76_34 : List Instr := [.ldc 0, .goto_w 35]
noncomputable def am_B76_35 : List Instr := [.ior, .istore 1, .iinc 2 1, .goto 4]
noncomputable def am_B76_43 : List Instr := [.iload 1, .ret 0]
noncomputable def am_t76 : List (Nat × List Instr) := [(0, am_B76_0), (4, am_B76_4), (34, am_B76_34), (35, am_B76_35), (43, am_B76_43)]
noncomputable def am_B77_0 : List Instr := [.sipush (-1), .istore 1, .ldc 0, .istore 2, .goto_w 4]
noncomputable def am_B77_4 : List Instr := [.iload 2, .aload 0, .getfield 103, .if_icmp .ge 40, .iload 1, .sipush (-1), .if_icmp .eq 32, .aload 0, .getfield 101, .iload 2, .iaload, .aload 0, .getfield 101, .iload 1, .iaload, .if_icmp .le 34, .goto_w 32]
noncomputable def am_B77_32 : List Instr := [.iload 2, .istore 1, .goto_w 34]
noncomputable def am_B77_34 : List Instr := [.iinc 2 1, .goto 4]
noncomputable def am_B77_40 : List Instr := [.iload 1, .ret 0]
noncomputable def am_t77 : List (Nat × List Instr) := [(0, am_B77_0), (4, am_B77_4), (32, am_B77_32), (34, am_B77_34), (40, am_B77_40)]
noncomputable def am_B78_0 : List Instr := [.iload 1, .tableswitch 72 0 5 #[40, 47, 52, 57, 62, 67]]
noncomputable def am_B78_40 : List Instr := [.aload 0, .getfield 160, .ldc 0, .iaload, .ret 0]
noncomputable def am_B78_47 : List Instr := [.aload 0, .invokeinterface 72 1, .ret 0]
noncomputable def am_B78_52 : List Instr := [.aload 0, .invokeinterface 79 1, .ret 0]
noncomputable def am_B78_57 : List Instr := [.aload 0, .invokeinterface 80 1, .ret 0]
noncomputable def am_B78_62 : List Instr := [.aload 0, .invokeinterface 81 1, .ret 0]
noncomputable def am_B78_67 : List Instr := [.aload 0, .invokeinterface 82 1, .ret 0]
noncomputable def am_B78_72 : List Instr := [.aload 0, .sipush (-1000001), .invokeinterface 21 2, .ret 0]
noncomputable def am_t78 : List (Nat × List Instr) := [(0, am_B78_0), (40, am_B78_40), (47, am_B78_47), (52, am_B78_52), (57, am_B78_57), (62, am_B78_62), (67, am_B78_67), (72, am_B78_72)]
noncomputable def am_B79_0 : List Instr := [.aload 0, .invokeinterface 29 1, .ldc 0, .istore 1, .ldc 0, .istore 2, .goto_w 8]
noncomputable def am_B79_8 : List Instr := [.iload 2, .aload 0, .getfield 160, .ldc 1, .iaload, .if_icmp .ge 42, .iload 1, .aload 0, .iload 2, .invokeinterface 54 2, .ifCond .eq 33, .ldc 1, .iload 2, .ishl, .goto 34]
noncomputable def am_B79_33 : List Instr := [.ldc 0, .goto_w 34]
noncomputable def am_B79_34 : List Instr := [.ior, .istore 1, .iinc 2 1, .goto 8]
noncomputable def am_B79_42 : List Instr := [.iload 1, .ret 0]
noncomputable def am_t79 : List (Nat × List Instr) := [(0, am_B79_0), (8, am_B79_8), (33, am_B79_33), (34, am_B79_34), (42, am_B79_42)]
noncomputable def am_B80_0 : List Instr := [.aload 0, .invokeinterface 29 1, .ldc 0, .istore 1, .ldc 0, .istore 2, .goto_w 8]
noncomputable def am_B80_8 : List Instr := [.iload 2, .aload 0, .getfield 160, .ldc 1, .iaload, .if_icmp .ge 35, .iload 1, .ldc 1, .aload 0, .getfield 165, .iload 2, .iaload, .ishl, .ior, .istore 1, .iinc 2 1, .goto 8]
noncomputable def am_B80_35 : List Instr := [.iload 1, .ret 0]
noncomputable def am_t80 : List (Nat × List Instr) := [(0, am_B80_0), (8, am_B80_8), (35, am_B80_35)]
noncomputable def am_B81_0 : List Instr := [.aload 0, .invokeinterface 29 1, .ldc 0, .istore 1, .ldc 0, .istore 2, .goto_w 8]
noncomputable def am_B81_8 : List Instr := [.iload 2, .aload 0, .getfield 160, .ldc 1, .iaload, .if_icmp .ge 49, .iload 1, .aload 0, .getfield 165, .iload 2, .iaload, .aload 0, .iload 2, .ldc 1, .invokeinterface 31 3, .if_icmp .eq 40, .ldc 1, .iload 2, .ishl, .goto 41]
noncomputable def am_B81_40 : List Instr := [.ldc 0, .goto_w 41]
noncomputable def am_B81_41 : List Instr := [.ior, .istore 1, .iinc 2 1, .goto 8]
noncomputable def am_B81_49 : List Instr := [.iload 1, .ret 0]
noncomputable def am_t81 : List (Nat × List Instr) := [(0, am_B81_0), (8, am_B81_8), (40, am_B81_40), (41, am_B81_41), (49, am_B81_49)]
noncomputable def am_B82_0 : List Instr := [.sipush (-1), .istore 1, .ldc 0, .istore 2, .goto_w 4]
noncomputable def am_B82_4 : List Instr := [.iload 2, .aload 0, .getfield 160, .ldc 1, .iaload, .if_icmp .ge 45, .iload 1, .ifCond .lt 33, .aload 0, .iload 2, .ldc 4, .invokeinterface 31 3, .aload 0, .iload 1, .ldc 4, .invokeinterface 31 3, .if_icmp .le 37, .goto_w 33]
noncomputable def am_B82_33 : List Instr := [.iload 2, .goto 38]
noncomputable def am_B82_37 : List Instr := [.iload 1, .goto_w 38]
noncomputable def am_B82_38 : List Instr := [.istore 1, .iinc 2 1, .goto 4]
noncomputable def am_B82_45 : List Instr := [.iload 1, .ret 0]
noncomputable def am_t82 : List (Nat × List Instr) := [(0, am_B82_0), (4, am_B82_4), (33, am_B82_33), (37, am_B82_37), (38, am_B82_38), (45, am_B82_45)]
noncomputable def am_B83_0 : List Instr := [.aload 0, .iload 1, .invokeinterface 47 2, .ifCond .eq 18, .iload 2, .ldc 0, .ldc 100, .invokeinterface 14 3, .ifCond .ne 25, .goto_w 18]
noncomputable def am_B83_18 : List Instr := [.aload 0, .sipush (-1000001), .invokeinterface 15 2, .ret 0]
noncomputable def am_B83_25 : List Instr := [.aload 0, .getfield 130, .aload 0, .getfield 128, .invokeinterface 84 2, .aload 0, .getfield 130, .iload 2, .invokeinterface 67 2, .aload 0, .getfield 130, .getfield 101, .iload 1, .iaload, .ret 0]
noncomputable def am_t83 : List (Nat × List Instr) := [(0, am_B83_0), (18, am_B83_18), (25, am_B83_25)]
noncomputable def am_B84_0 : List Instr := [.aload 1, .getfield 96, .ldc 0, .aload 0, .getfield 96, .ldc 0, .ldc 8, .invokeinterface 999 5, .aload 1, .getfield 97, .ldc 0, .aload 0, .getfield 97, .ldc 0, .ldc 8, .invokeinterface 999 5, .aload 1, .getfield 98, .ldc 0, .aload 0, .getfield 98, .ldc 0, .ldc 8, .invokeinterface 999 5, .aload 1, .getfield 99, .ldc 0, .aload 0, .getfield 99, .ldc 0, .ldc 8, .invokeinterface 999 5, .aload 1, .getfield 100, .ldc 0, .aload 0, .getfield 100, .ldc 0, .ldc 8, .invokeinterface 999 5, .aload 1, .getfield 101, .ldc 0, .aload 0, .getfield 101, .ldc 0, .ldc 8, .invokeinterface 999 5, .aload 1, .getfield 102, .ldc 0, .aload 0, .getfield 102, .ldc 0, .ldc 10, .invokeinterface 999 5, .aload 0, .aload 1, .getfield 103, .putfield 103, .aload 0, .aload 1, .getfield 104, .putfield 104, .aload 0, .aload 1, .getfield 105, .putfield 105, .return_]
noncomputable def am_t84 : List (Nat × List Instr) := [(0, am_B84_0)]
noncomputable def am_B85_0 : List Instr := [.aload 0, .iload 1, .invokeinterface 53 2, .ifCond .eq 28, .iload 2, .invokeinterface 86 1, .ifCond .eq 28, .aload 0, .iload 1, .ldc 4, .invokeinterface 32 2, .iload 2, .invokeinterface 87 3, .goto 34]
noncomputable def am_B85_28 : List Instr := [.aload 0, .sipush (-1000001), .invokeinterface 21 2, .goto_w 34]
noncomputable def am_B85_34 : List Instr := [.ret 0]
noncomputable def am_t85 : List (Nat × List Instr) := [(0, am_B85_0), (28, am_B85_28), (34, am_B85_34)]
noncomputable def am_B86_0 : List Instr := [.iload 0, .ldc 0, .ldc 100, .invokeinterface 18 3, .ret 1]
noncomputable def am_t86 : List (Nat × List Instr) := [(0, am_B86_0)]
noncomputable def am_B87_0 : List Instr := [.aload 0, .getfield 160, .aload 0, .getfield 162, .invokeinterface 88 2, .aload 0, .iload 2, .invokeinterface 70 2, .aload 0, .aload 0, .getfield 160, .iload 1, .iaload, .invokeinterface 89 2, .ret 0]
noncomputable def am_t87 : List (Nat × List Instr) := [(0, am_B87_0)]
noncomputable def am_B88_0 : List Instr := [.ldc 0, .istore 2, .goto_w 2]
noncomputable def am_B88_2 : List Instr := [.iload 2, .ldc 61, .if_icmp .ge 20, .aload 1, .iload 2, .aload 0, .iload 2, .iaload, .iastore, .iinc 2 1, .goto 2]
noncomputable def am_B88_20 : List Instr := [.return_]
noncomputable def am_t88 : List (Nat × List Instr) := [(0, am_B88_0), (2, am_B88_2), (20, am_B88_20)]
noncomputable def am_B89_0 : List Instr := [.aload 0, .getfield 162, .aload 0, .getfield 160, .invokeinterface 88 2, .iload 1, .ret 0]
noncomputable def am_t89 : List (Nat × List Instr) := [(0, am_B89_0)]
noncomputable def am_B90_0 : List Instr := [.aload 0, .iload 1, .invokeinterface 47 2, .ifCond .eq 18, .iload 2, .ldc 0, .ldc 100, .invokeinterface 14 3, .ifCond .ne 25, .goto_w 18]
noncomputable def am_B90_18 : List Instr := [.aload 0, .sipush (-1000001), .invokeinterface 15 2, .ret 0]
noncomputable def am_B90_25 : List Instr := [.aload 0, .getfield 130, .aload 0, .getfield 128, .invokeinterface 84 2, .aload 0, .getfield 130, .iload 2, .invokeinterface 67 2, .aload 0, .getfield 130, .getfield 98, .iload 1, .iaload, .ret 0]
noncomputable def am_t90 : List (Nat × List Instr) := [(0, am_B90_0), (18, am_B90_18), (25, am_B90_25)]
noncomputable def am_B91_0 : List Instr := [.aload 0, .iload 1, .invokeinterface 53 2, .ifCond .eq 28, .iload 2, .invokeinterface 86 1, .ifCond .eq 28, .aload 0, .iload 1, .ldc 1, .invokeinterface 32 2, .iload 2, .invokeinterface 87 3, .goto 34]
noncomputable def am_B91_28 : List Instr := [.aload 0, .sipush (-1000001), .invokeinterface 21 2, .goto_w 34]
noncomputable def am_B91_34 : List Instr := [.ret 0]
noncomputable def am_t91 : List (Nat × List Instr) := [(0, am_B91_0), (28, am_B91_28), (34, am_B91_34)]
noncomputable def am_B92_0 : List Instr := [.aload 0, .getfield 130, .aload 0, .getfield 128, .invokeinterface 84 2, .ldc 0, .istore 1, .goto_w 13]
noncomputable def am_B92_13 : List Instr := [.iload 1, .ldc 100, .if_icmp .gt 52, .aload 0, .getfield 130, .invokeinterface 23 1, .aload 0, .getfield 130, .invokeinterface 76 1, .ifCond .ne 38, .iload 1, .ret 0]
noncomputable def am_B92_38 : List Instr := [.aload 0, .getfield 130, .ldc 1, .invokeinterface 67 2, .iinc 1 1, .goto 13]
noncomputable def am_B92_52 : List Instr := [.aload 0, .sipush (-1000004), .invokeinterface 15 2, .ret 0]
noncomputable def am_t92 : List (Nat × List Instr) := [(0, am_B92_0), (13, am_B92_13), (38, am_B92_38), (52, am_B92_52)]
noncomputable def am_B93_0 : List Instr := [.aload 0, .getfield 160, .aload 0, .getfield 162, .invokeinterface 88 2, .ldc 0, .istore 1, .goto_w 13]
noncomputable def am_B93_13 : List Instr := [.iload 1, .ldc 100, .if_icmp .ge 36, .aload 0, .invokeinterface 81 1, .ifCond .eq 36, .aload 0, .invokeinterface 71 1, .iinc 1 1, .goto 13]
noncomputable def am_B93_36 : List Instr := [.aload 0, .aload 0, .aload 0, .invokeinterface 81 1, .ifCond .ne 49, .iload 1, .goto 50]
noncomputable def am_B93_49 : List Instr := [.sipush (-1), .goto_w 50]
noncomputable def am_B93_50 : List Instr := [.invokeinterface 89 2, .invokeinterface 94 2, .ret 0]
noncomputable def am_t93 : List (Nat × List Instr) := [(0, am_B93_0), (13, am_B93_13), (36, am_B93_36), (49, am_B93_49), (50, am_B93_50)]
noncomputable def am_B94_0 : List Instr := [.iload 1, .ifCond .ge 13, .aload 0, .sipush (-1000004), .invokeinterface 21 2, .goto 14]
noncomputable def am_B94_13 : List Instr := [.iload 1, .goto_w 14]
noncomputable def am_B94_14 : List Instr := [.ret 0]
noncomputable def am_t94 : List (Nat × List Instr) := [(0, am_B94_0), (13, am_B94_13), (14, am_B94_14)]
noncomputable def am_B95_0 : List Instr := [.aload 0, .getfield 130, .aload 0, .getfield 128, .invokeinterface 84 2, .ldc 1, .istore 1, .goto_w 13]
noncomputable def am_B95_13 : List Instr := [.iload 1, .ldc 100, .if_icmp .gt 49, .aload 0, .getfield 130, .ldc 1, .invokeinterface 67 2, .aload 0, .getfield 130, .aload 0, .getfield 128, .invokeinterface 96 2, .ifCond .eq 43, .iload 1, .ret 0]
noncomputable def am_B95_43 : List Instr := [.iinc 1 1, .goto 13]
noncomputable def am_B95_49 : List Instr := [.aload 0, .sipush (-1000004), .invokeinterface 15 2, .ret 0]
noncomputable def am_t95 : List (Nat × List Instr) := [(0, am_B95_0), (13, am_B95_13), (43, am_B95_43), (49, am_B95_49)]
noncomputable def am_B96_0 : List Instr := [.ldc 0, .istore 2, .goto_w 2]
noncomputable def am_B96_2 : List Instr := [.iload 2, .aload 0, .getfield 103, .if_icmp .ge 33, .aload 0, .getfield 98, .iload 2, .iaload, .aload 1, .getfield 98, .iload 2, .iaload, .if_icmp .eq 27, .ldc 0, .ret 1]
noncomputable def am_B96_27 : List Instr := [.iinc 2 1, .goto 2]
noncomputable def am_B96_33 : List Instr := [.ldc 1, .ret 1]
noncomputable def am_t96 : List (Nat × List Instr) := [(0, am_B96_0), (2, am_B96_2), (27, am_B96_27), (33, am_B96_33)]
noncomputable def am_B97_0 : List Instr := [.aload 0, .getfield 160, .aload 0, .getfield 162, .invokeinterface 88 2, .aload 0, .invokeinterface 71 1, .ldc 1, .istore 1, .goto_w 17]
noncomputable def am_B97_17 : List Instr := [.iload 1, .ldc 100, .if_icmp .ge 40, .aload 0, .invokeinterface 98 1, .ifCond .ne 40, .aload 0, .invokeinterface 71 1, .iinc 1 1, .goto 17]
noncomputable def am_B97_40 : List Instr := [.aload 0, .aload 0, .aload 0, .invokeinterface 98 1, .ifCond .eq 53, .iload 1, .goto 54]
noncomputable def am_B97_53 : List Instr := [.sipush (-1), .goto_w 54]
noncomputable def am_B97_54 : List Instr := [.invokeinterface 89 2, .invokeinterface 94 2, .ret 0]
noncomputable def am_t97 : List (Nat × List Instr) := [(0, am_B97_0), (17, am_B97_17), (40, am_B97_40), (53, am_B97_53), (54, am_B97_54)]
noncomputable def am_B98_0 : List Instr := [.ldc 1, .istore 1, .ldc 0, .istore 2, .goto_w 4]
noncomputable def am_B98_4 : List Instr := [.iload 2, .aload 0, .getfield 160, .ldc 1, .iaload, .if_icmp .ge 53, .iload 1, .ifCond .eq 45, .aload 0, .getfield 160, .iload 2, .ldc 1, .invokeinterface 32 2, .iaload, .aload 0, .getfield 162, .iload 2, .ldc 1, .invokeinterface 32 2, .iaload, .if_icmp .ne 45, .ldc 1, .goto 46]
noncomputable def am_B98_45 : List Instr := [.ldc 0, .goto_w 46]
noncomputable def am_B98_46 : List Instr := [.istore 1, .iinc 2 1, .goto 4]
noncomputable def am_B98_53 : List Instr := [.iload 1, .ret 1]
noncomputable def am_t98 : List (Nat × List Instr) := [(0, am_B98_0), (4, am_B98_4), (45, am_B98_45), (46, am_B98_46), (53, am_B98_53)]
noncomputable def am_B99_0 : List Instr := [.aload 0, .iload 1, .invokeinterface 47 2, .ifCond .eq 21, .aload 0, .iload 2, .invokeinterface 47 2, .ifCond .eq 21, .iload 1, .iload 2, .if_icmp .ne 28, .goto_w 21]
noncomputable def am_B99_21 : List Instr := [.aload 0, .sipush (-1000001), .invokeinterface 15 2, .ret 0]
noncomputable def am_B99_28 : List Instr := [.aload 0, .getfield 130, .aload 0, .getfield 128, .invokeinterface 84 2, .ldc 0, .istore 3, .goto_w 41]
noncomputable def am_B99_41 : List Instr := [.iload 3, .ldc 100, .if_icmp .gt 91, .aload 0, .getfield 130, .invokeinterface 23 1, .aload 0, .getfield 130, .getfield 107, .iload 1, .iaload, .aload 0, .getfield 130, .getfield 107, .iload 2, .iaload, .if_icmp .ne 77, .iload 3, .ret 0]
noncomputable def am_B99_77 : List Instr := [.aload 0, .getfield 130, .ldc 1, .invokeinterface 67 2, .iinc 3 1, .goto 41]
noncomputable def am_B99_91 : List Instr := [.aload 0, .sipush (-1000004), .invokeinterface 15 2, .ret 0]
noncomputable def am_t99 : List (Nat × List Instr) := [(0, am_B99_0), (21, am_B99_21), (28, am_B99_28), (41, am_B99_41), (77, am_B99_77), (91, am_B99_91)]
noncomputable def am_B100_0 : List Instr := [.aload 0, .iload 1, .invokeinterface 53 2, .ifCond .eq 21, .aload 0, .iload 2, .invokeinterface 53 2, .ifCond .eq 21, .iload 1, .iload 2, .if_icmp .ne 28, .goto_w 21]
noncomputable def am_B100_21 : List Instr := [.aload 0, .sipush (-1000001), .invokeinterface 21 2, .ret 0]
noncomputable def am_B100_28 : List Instr := [.aload 0, .getfield 160, .aload 0, .getfield 162, .invokeinterface 88 2, .ldc 0, .istore 3, .goto_w 41]
noncomputable def am_B100_41 : List Instr := [.iload 3, .ldc 100, .if_icmp .ge 66, .aload 0, .iload 1, .iload 2, .invokeinterface 101 3, .ifCond .ne 66, .aload 0, .invokeinterface 71 1, .iinc 3 1, .goto 41]
noncomputable def am_B100_66 : List Instr := [.aload 0, .aload 0, .aload 0, .iload 1, .iload 2, .invokeinterface 101 3, .ifCond .eq 81, .iload 3, .goto 82]
noncomputable def am_B100_81 : List Instr := [.sipush (-1), .goto_w 82]
noncomputable def am_B100_82 : List Instr := [.invokeinterface 89 2, .invokeinterface 94 2, .ret 0]
noncomputable def am_t100 : List (Nat × List Instr) := [(0, am_B100_0), (21, am_B100_21), (28, am_B100_28), (41, am_B100_41), (66, am_B100_66), (81, am_B100_81), (82, am_B100_82)]
noncomputable def am_B101_0 : List Instr := [.aload 0, .invokeinterface 29 1, .aload 0, .getfield 165, .iload 1, .iaload, .aload 0, .getfield 165, .iload 2, .iaload, .if_icmp .ne 23, .ldc 1, .goto 24]
noncomputable def am_B101_23 : List Instr := [.ldc 0, .goto_w 24]
noncomputable def am_B101_24 : List Instr := [.ret 1]
noncomputable def am_t101 : List (Nat × List Instr) := [(0, am_B101_0), (23, am_B101_23), (24, am_B101_24)]
noncomputable def am_B102_0 : List Instr := [.iload 1, .invokeinterface 13 1, .ifCond .eq 26, .iload 2, .ldc 1, .ldc 100, .invokeinterface 14 3, .ifCond .eq 26, .iload 3, .ldc 0, .ldc 1, .invokeinterface 14 3, .ifCond .ne 33, .goto_w 26]
noncomputable def am_B102_26 : List Instr := [.aload 0, .sipush (-1000001), .invokeinterface 15 2, .ret 0]
noncomputable def am_B102_33 : List Instr := [.aload 0, .getfield 130, .aload 0, .getfield 128, .invokeinterface 84 2, .ldc 8, .istore 4, .ldc 0, .istore 5, .ldc 0, .istore 6, .goto_w 54]
noncomputable def am_B102_54 : List Instr := [.iload 6, .iload 2, .if_icmp .ge 106, .aload 0, .getfield 130, .ldc 1, .invokeinterface 67 2, .iload 4, .aload 0, .getfield 130, .getfield 108, .iload 1, .iaload, .invokeinterface 1 2, .istore 4, .iload 5, .aload 0, .getfield 130, .getfield 108, .iload 1, .iaload, .invokeinterface 2 2, .istore 5, .iinc 6 1, .goto 54]
noncomputable def am_B102_106 : List Instr := [.iload 3, .ifCond .ne 115, .iload 4, .goto 117]
noncomputable def am_B102_115 : List Instr := [.iload 5, .goto_w 117]
noncomputable def am_B102_117 : List Instr := [.ret 0]
noncomputable def am_t102 : List (Nat × List Instr) := [(0, am_B102_0), (26, am_B102_26), (33, am_B102_33), (54, am_B102_54), (106, am_B102_106), (115, am_B102_115), (117, am_B102_117)]
noncomputable def am_B103_0 : List Instr := [.iload 1, .invokeinterface 17 1, .ifCond .eq 26, .iload 2, .ldc 1, .ldc 100, .invokeinterface 18 3, .ifCond .eq 26, .iload 3, .ldc 0, .ldc 1, .invokeinterface 18 3, .ifCond .ne 33, .goto_w 26]
noncomputable def am_B103_26 : List Instr := [.aload 0, .sipush (-1000001), .invokeinterface 21 2, .ret 0]
noncomputable def am_B103_33 : List Instr := [.aload 0, .getfield 160, .aload 0, .getfield 162, .invokeinterface 88 2, .ldc 8, .istore 4, .ldc 0, .istore 5, .ldc 0, .istore 6, .goto_w 54]
noncomputable def am_B103_54 : List Instr := [.iload 6, .iload 2, .if_icmp .ge 102, .aload 0, .invokeinterface 29 1, .aload 0, .iload 1, .invokeinterface 39 2, .invokeinterface 36 1, .istore 7, .iload 4, .iload 7, .invokeinterface 1 2, .istore 4, .iload 5, .iload 7, .invokeinterface 2 2, .istore 5, .aload 0, .invokeinterface 71 1, .iinc 6 1, .goto 54]
noncomputable def am_B103_102 : List Instr := [.aload 0, .iload 3, .ifCond .ne 112, .iload 4, .goto 114]
noncomputable def am_B103_112 : List Instr := [.iload 5, .goto_w 114]
noncomputable def am_B103_114 : List Instr := [.invokeinterface 89 2, .ret 0]
noncomputable def am_t103 : List (Nat × List Instr) := [(0, am_B103_0), (26, am_B103_26), (33, am_B103_33), (54, am_B103_54), (102, am_B103_102), (112, am_B103_112), (114, am_B103_114)]
noncomputable def am_B104_0 : List Instr := [.aload 0, .iload 1, .iload 2, .ldc 1, .invokeinterface 105 4, .ret 0]
noncomputable def am_t104 : List (Nat × List Instr) := [(0, am_B104_0)]
noncomputable def am_B105_0 : List Instr := [.aload 0, .iload 1, .invokeinterface 47 2, .ifCond .eq 18, .iload 2, .ldc 0, .ldc 60, .invokeinterface 14 3, .ifCond .ne 25, .goto_w 18]
noncomputable def am_B105_18 : List Instr := [.aload 0, .sipush (-1000001), .invokeinterface 15 2, .ret 0]
noncomputable def am_B105_25 : List Instr := [.sipush (-1), .istore 4, .sipush (-1), .istore 5, .sipush (-1), .istore 6, .goto_w 34]
noncomputable def am_B105_34 : List Instr := [.iload 6, .ldc 8, .if_icmp .ge 123, .aload 0, .getfield 128, .iload 1, .iload 3, .iload 6, .invokeinterface 56 4, .ifCond .ne 58, .goto 117]
noncomputable def am_B105_58 : List Instr := [.aload 0, .getfield 130, .aload 0, .getfield 128, .invokeinterface 84 2, .aload 0, .getfield 130, .iload 1, .iload 3, .iload 6, .invokeinterface 57 4, .aload 0, .getfield 130, .iload 2, .invokeinterface 67 2, .aload 0, .getfield 130, .getfield 101, .iload 1, .iaload, .iload 5, .if_icmp .le 117, .iload 6, .istore 4, .aload 0, .getfield 130, .getfield 101, .iload 1, .iaload, .istore 5, .goto_w 117]
noncomputable def am_B105_117 : List Instr := [.iinc 6 1, .goto 34]
noncomputable def am_B105_123 : List Instr := [.iload 4, .ret 0]
noncomputable def am_t105 : List (Nat × List Instr) := [(0, am_B105_0), (18, am_B105_18), (25, am_B105_25), (34, am_B105_34), (58, am_B105_58), (117, am_B105_117), (123, am_B105_123)]
noncomputable def am_B106_0 : List Instr := [.aload 0, .iload 1, .iload 2, .invokeinterface 107 3, .ifCond .eq 22, .aload 0, .iload 1, .ldc 1, .ldc 0, .ldc 7, .iload 2, .invokeinterface 108 6, .goto 28]
noncomputable def am_B106_22 : List Instr := [.aload 0, .sipush (-1000001), .invokeinterface 21 2, .goto_w 28]
noncomputable def am_B106_28 : List Instr := [.ret 0]
noncomputable def am_t106 : List (Nat × List Instr) := [(0, am_B106_0), (22, am_B106_22), (28, am_B106_28)]
noncomputable def am_B107_0 : List Instr := [.aload 0, .iload 1, .invokeinterface 53 2, .ifCond .eq 22, .iload 2, .ldc 0, .ldc 60, .invokeinterface 18 3, .ifCond .eq 22, .ldc 1, .goto 23]
noncomputable def am_B107_22 : List Instr := [.ldc 0, .goto_w 23]
noncomputable def am_B107_23 : List Instr := [.ret 1]
noncomputable def am_t107 : List (Nat × List Instr) := [(0, am_B107_0), (22, am_B107_22), (23, am_B107_23)]
noncomputable def am_B108_0 : List Instr := [.aload 0, .iload 1, .iload 2, .invokeinterface 31 3, .istore 6, .iload 3, .istore 7, .sipush (-1), .istore 8, .iload 3, .istore 9, .goto_w 17]
noncomputable def am_B108_17 : List Instr := [.iload 9, .iload 4, .if_icmp .gt 95, .aload 0, .getfield 160, .iload 1, .iload 2, .invokeinterface 32 2, .iload 9, .iastore, .iload 2, .ldc 3, .if_icmp .ne 51, .iload 9, .iload 1, .if_icmp .ne 51, .sipush (-1), .goto 62]
noncomputable def am_B108_51 : List Instr := [.aload 0, .iload 1, .ldc 4, .invokeinterface 32 2, .iload 5, .invokeinterface 87 3, .goto_w 62]
noncomputable def am_B108_62 : List Instr := [.istore 10, .iload 10, .iload 8, .if_icmp .le 76, .iload 9, .goto 78]
noncomputable def am_B108_76 : List Instr := [.iload 7, .goto_w 78]
noncomputable def am_B108_78 : List Instr := [.istore 7, .iload 8, .iload 10, .invokeinterface 2 2, .istore 8, .iinc 9 1, .goto 17]
noncomputable def am_B108_95 : List Instr := [.aload 0, .getfield 160, .iload 1, .iload 2, .invokeinterface 32 2, .iload 6, .iastore, .iload 7, .ret 0]
noncomputable def am_t108 : List (Nat × List Instr) := [(0, am_B108_0), (17, am_B108_17), (51, am_B108_51), (62, am_B108_62), (76, am_B108_76), (78, am_B108_78), (95, am_B108_95)]
noncomputable def am_B109_0 : List Instr := [.aload 0, .iload 1, .iload 2, .ldc 0, .invokeinterface 105 4, .ret 0]
noncomputable def am_t109 : List (Nat × List Instr) := [(0, am_B109_0)]
noncomputable def am_B110_0 : List Instr := [.aload 0, .iload 1, .iload 2, .invokeinterface 107 3, .ifCond .eq 22, .aload 0, .iload 1, .ldc 0, .ldc 0, .ldc 6, .iload 2, .invokeinterface 108 6, .goto 28]
noncomputable def am_B110_22 : List Instr := [.aload 0, .sipush (-1000001), .invokeinterface 21 2, .goto_w 28]
noncomputable def am_B110_28 : List Instr := [.ret 0]
noncomputable def am_t110 : List (Nat × List Instr) := [(0, am_B110_0), (22, am_B110_22), (28, am_B110_28)]
noncomputable def am_B111_0 : List Instr := [.aload 0, .iload 1, .iload 2, .ldc 2, .invokeinterface 105 4, .ret 0]
noncomputable def am_t111 : List (Nat × List Instr) := [(0, am_B111_0)]
noncomputable def am_B112_0 : List Instr := [.aload 0, .iload 1, .iload 2, .invokeinterface 107 3, .ifCond .eq 22, .aload 0, .iload 1, .ldc 2, .ldc 0, .ldc 7, .iload 2, .invokeinterface 108 6, .goto 28]
noncomputable def am_B112_22 : List Instr := [.aload 0, .sipush (-1000001), .invokeinterface 21 2, .goto_w 28]
noncomputable def am_B112_28 : List Instr := [.ret 0]
noncomputable def am_t112 : List (Nat × List Instr) := [(0, am_B112_0), (22, am_B112_22), (28, am_B112_28)]
noncomputable def am_B113_0 : List Instr := [.aload 0, .iload 1, .iload 2, .ldc 3, .invokeinterface 105 4, .ret 0]
noncomputable def am_t113 : List (Nat × List Instr) := [(0, am_B113_0)]
noncomputable def am_B114_0 : List Instr := [.aload 0, .iload 1, .iload 2, .invokeinterface 107 3, .ifCond .eq 28, .aload 0, .iload 1, .ldc 3, .sipush (-1), .aload 0, .getfield 160, .ldc 1, .iaload, .ldc 1, .isub, .iload 2, .invokeinterface 108 6, .goto 34]
noncomputable def am_B114_28 : List Instr := [.aload 0, .sipush (-1000001), .invokeinterface 21 2, .goto_w 34]
noncomputable def am_B114_34 : List Instr := [.ret 0]
noncomputable def am_t114 : List (Nat × List Instr) := [(0, am_B114_0), (28, am_B114_28), (34, am_B114_34)]
noncomputable def am_B115_0 : List Instr := [.iload 1, .invokeinterface 13 1, .ifCond .eq 17, .iload 2, .ldc 0, .ldc 8, .invokeinterface 14 3, .ifCond .ne 24, .goto_w 17]
noncomputable def am_B115_17 : List Instr := [.aload 0, .sipush (-1000001), .invokeinterface 15 2, .ret 0]
noncomputable def am_B115_24 : List Instr := [.aload 0, .getfield 130, .aload 0, .getfield 128, .invokeinterface 84 2, .ldc 0, .istore 3, .goto_w 37]
noncomputable def am_B115_37 : List Instr := [.iload 3, .ldc 200, .if_icmp .gt 82, .aload 0, .getfield 130, .getfield 96, .iload 1, .iload 3, .iastore, .aload 0, .getfield 130, .invokeinterface 23 1, .aload 0, .getfield 130, .getfield 108, .iload 1, .iaload, .iload 2, .if_icmp .lt 76, .iload 3, .ret 0]
noncomputable def am_B115_76 : List Instr := [.iinc 3 1, .goto 37]
noncomputable def am_B115_82 : List Instr := [.aload 0, .sipush (-1000004), .invokeinterface 15 2, .ret 0]
noncomputable def am_t115 : List (Nat × List Instr) := [(0, am_B115_0), (17, am_B115_17), (24, am_B115_24), (37, am_B115_37), (76, am_B115_76), (82, am_B115_82)]
noncomputable def am_B116_0 : List Instr := [.iload 1, .invokeinterface 17 1, .ifCond .eq 17, .iload 2, .ldc 0, .ldc 8, .invokeinterface 18 3, .ifCond .ne 24, .goto_w 17]
noncomputable def am_B116_17 : List Instr := [.aload 0, .sipush (-1000001), .invokeinterface 21 2, .ret 0]
noncomputable def am_B116_24 : List Instr := [.aload 0, .getfield 160, .ldc 13, .iload 1, .iadd, .iaload, .istore 3, .sipush (-1), .istore 4, .ldc 200, .istore 5, .goto_w 42]
noncomputable def am_B116_42 : List Instr := [.iload 5, .ifCond .lt 82, .aload 0, .getfield 160, .ldc 13, .iload 1, .iadd, .iload 5, .iastore, .aload 0, .iload 1, .invokeinterface 117 2, .iload 2, .if_icmp .lt 72, .iload 5, .goto 74]
noncomputable def am_B116_72 : List Instr := [.iload 4, .goto_w 74]
noncomputable def am_B116_74 : List Instr := [.istore 4, .iinc 5 (-1), .goto 42]
noncomputable def am_B116_82 : List Instr := [.aload 0, .getfield 160, .ldc 13, .iload 1, .iadd, .iload 3, .iastore, .aload 0, .iload 4, .invokeinterface 94 2, .ret 0]
noncomputable def am_t116 : List (Nat × List Instr) := [(0, am_B116_0), (17, am_B116_17), (24, am_B116_24), (42, am_B116_42), (72, am_B116_72), (74, am_B116_74), (82, am_B116_82)]
noncomputable def am_B117_0 : List Instr := [.aload 0, .invokeinterface 29 1, .aload 0, .iload 1, .invokeinterface 39 2, .invokeinterface 36 1, .ret 0]
noncomputable def am_t117 : List (Nat × List Instr) := [(0, am_B117_0)]
noncomputable def am_B118_0 : List Instr := [.iload 1, .invokeinterface 13 1, .ifCond .eq 17, .iload 2, .ldc 0, .ldc 8, .invokeinterface 14 3, .ifCond .ne 24, .goto_w 17]
noncomputable def am_B118_17 : List Instr := [.aload 0, .sipush (-1000001), .invokeinterface 15 2, .ret 0]
noncomputable def am_B118_24 : List Instr := [.sipush (-1), .istore 3, .ldc 0, .istore 4, .goto_w 29]
noncomputable def am_B118_29 : List Instr := [.iload 4, .ldc 1, .aload 0, .getfield 128, .getfield 103, .ishl, .if_icmp .ge 91, .iload 3, .ifCond .lt 59, .iload 4, .invokeinterface 4 1, .iload 3, .invokeinterface 4 1, .if_icmp .ge 63, .goto_w 59]
noncomputable def am_B118_59 : List Instr := [.ldc 1, .goto 64]
noncomputable def am_B118_63 : List Instr := [.ldc 0, .goto_w 64]
noncomputable def am_B118_64 : List Instr := [.istore 5, .iload 5, .ifCond .eq 85, .aload 0, .iload 4, .iload 1, .invokeinterface 119 3, .iload 2, .if_icmp .lt 85, .iload 4, .istore 3, .goto_w 85]
noncomputable def am_B118_85 : List Instr := [.iinc 4 1, .goto 29]
noncomputable def am_B118_91 : List Instr := [.iload 3, .ifCond .ge 104, .aload 0, .sipush (-1000004), .invokeinterface 15 2, .goto 105]
noncomputable def am_B118_104 : List Instr := [.iload 3, .goto_w 105]
noncomputable def am_B118_105 : List Instr := [.ret 0]
noncomputable def am_t118 : List (Nat × List Instr) := [(0, am_B118_0), (17, am_B118_17), (24, am_B118_24), (29, am_B118_29), (59, am_B118_59), (63, am_B118_63), (64, am_B118_64), (85, am_B118_85), (91, am_B118_91), (104, am_B118_104), (105, am_B118_105)]
noncomputable def am_B119_0 : List Instr := [.aload 0, .getfield 130, .aload 0, .getfield 128, .invokeinterface 84 2, .ldc 0, .istore 3, .goto_w 13]
noncomputable def am_B119_13 : List Instr := [.iload 3, .aload 0, .getfield 130, .getfield 103, .if_icmp .ge 49, .iload 1, .iload 3, .ishr, .ldc 1, .iand, .ldc 1, .if_icmp .ne 43, .aload 0, .getfield 130, .getfield 98, .iload 3, .iload 2, .iastore, .goto_w 43]
noncomputable def am_B119_43 : List Instr := [.iinc 3 1, .goto 13]
noncomputable def am_B119_49 : List Instr := [.aload 0, .getfield 130, .invokeinterface 23 1, .aload 0, .getfield 130, .getfield 108, .iload 2, .iaload, .ret 0]
noncomputable def am_t119 : List (Nat × List Instr) := [(0, am_B119_0), (13, am_B119_13), (43, am_B119_43), (49, am_B119_49)]
noncomputable def am_B120_0 : List Instr := [.iload 1, .invokeinterface 17 1, .ifCond .eq 17, .iload 2, .ldc 0, .ldc 8, .invokeinterface 18 3, .ifCond .ne 24, .goto_w 17]
noncomputable def am_B120_17 : List Instr := [.aload 0, .sipush (-1000001), .invokeinterface 21 2, .ret 0]
noncomputable def am_B120_24 : List Instr := [.sipush (-1), .istore 3, .ldc 0, .istore 4, .goto_w 29]
noncomputable def am_B120_29 : List Instr := [.iload 4, .ldc 1, .aload 0, .getfield 160, .ldc 1, .iaload, .ishl, .if_icmp .ge 94, .iload 3, .ifCond .lt 58, .iload 4, .invokeinterface 36 1, .iload 3, .invokeinterface 36 1, .if_icmp .ge 62, .goto_w 58]
noncomputable def am_B120_58 : List Instr := [.ldc 1, .goto 63]
noncomputable def am_B120_62 : List Instr := [.ldc 0, .goto_w 63]
noncomputable def am_B120_63 : List Instr := [.istore 5, .iload 5, .ifCond .eq 86, .aload 0, .iload 4, .iload 1, .invokeinterface 121 3, .iload 2, .if_icmp .lt 86, .iload 4, .goto 87]
noncomputable def am_B120_86 : List Instr := [.iload 3, .goto_w 87]
noncomputable def am_B120_87 : List Instr := [.istore 3, .iinc 4 1, .goto 29]
noncomputable def am_B120_94 : List Instr := [.aload 0, .iload 3, .invokeinterface 94 2, .ret 0]
noncomputable def am_t120 : List (Nat × List Instr) := [(0, am_B120_0), (17, am_B120_17), (24, am_B120_24), (29, am_B120_29), (58, am_B120_58), (62, am_B120_62), (63, am_B120_63), (86, am_B120_86), (87, am_B120_87), (94, am_B120_94)]
noncomputable def am_B121_0 : List Instr := [.aload 0, .getfield 160, .aload 0, .getfield 162, .invokeinterface 88 2, .ldc 0, .istore 3, .goto_w 13]
noncomputable def am_B121_13 : List Instr := [.iload 3, .aload 0, .getfield 160, .ldc 1, .iaload, .if_icmp .ge 57, .aload 0, .getfield 160, .iload 3, .ldc 1, .invokeinterface 32 2, .iload 1, .iload 3, .invokeinterface 122 2, .ifCond .eq 44, .iload 2, .goto 50]
noncomputable def am_B121_44 : List Instr := [.aload 0, .iload 3, .ldc 1, .invokeinterface 31 3, .goto_w 50]
noncomputable def am_B121_50 : List Instr := [.iastore, .iinc 3 1, .goto 13]
noncomputable def am_B121_57 : List Instr := [.aload 0, .aload 0, .iload 2, .invokeinterface 117 2, .invokeinterface 89 2, .ret 0]
noncomputable def am_t121 : List (Nat × List Instr) := [(0, am_B121_0), (13, am_B121_13), (44, am_B121_44), (50, am_B121_50), (57, am_B121_57)]
noncomputable def am_B122_0 : List Instr := [.iload 0, .iload 1, .ishr, .ldc 1, .iand, .ldc 1, .if_icmp .ne 13, .ldc 1, .goto 14]
noncomputable def am_B122_13 : List Instr := [.ldc 0, .goto_w 14]
noncomputable def am_B122_14 : List Instr := [.ret 1]
noncomputable def am_t122 : List (Nat × List Instr) := [(0, am_B122_0), (13, am_B122_13), (14, am_B122_14)]
noncomputable def am_B123_0 : List Instr := [.aload 0, .getfield 128, .getfield 103, .ifCond .ne 17, .aload 0, .sipush (-1000004), .invokeinterface 15 2, .ret 0]
noncomputable def am_B123_17 : List Instr := [.ldc 0, .istore 1, .sipush (-1), .istore 2, .ldc 0, .istore 3, .goto_w 23]
noncomputable def am_B123_23 : List Instr := [.iload 3, .aload 0, .getfield 128, .getfield 103, .if_icmp .ge 99, .aload 0, .getfield 130, .aload 0, .getfield 128, .invokeinterface 84 2, .aload 0, .getfield 130, .getfield 98, .iload 3, .sipush (-1), .iastore, .aload 0, .getfield 130, .ldc 1, .invokeinterface 67 2, .aload 0, .getfield 130, .invokeinterface 68 1, .aload 0, .getfield 130, .getfield 101, .iload 3, .iaload, .isub, .istore 4, .iload 4, .iload 2, .if_icmp .le 93, .iload 3, .istore 1, .iload 4, .istore 2, .goto_w 93]
noncomputable def am_B123_93 : List Instr := [.iinc 3 1, .goto 23]
noncomputable def am_B123_99 : List Instr := [.iload 1, .ret 0]
noncomputable def am_t123 : List (Nat × List Instr) := [(0, am_B123_0), (17, am_B123_17), (23, am_B123_23), (93, am_B123_93), (99, am_B123_99)]
noncomputable def am_B124_0 : List Instr := [.sipush (-1), .istore 1, .sipush (-1), .istore 2, .ldc 0, .istore 3, .goto_w 6]
noncomputable def am_B124_6 : List Instr := [.iload 3, .aload 0, .getfield 160, .ldc 1, .iaload, .if_icmp .ge 48, .aload 0, .iload 3, .invokeinterface 125 2, .istore 4, .iload 4, .iload 2, .if_icmp .le 33, .iload 3, .goto 34]
noncomputable def am_B124_33 : List Instr := [.iload 1, .goto_w 34]
noncomputable def am_B124_34 : List Instr := [.istore 1, .iload 2, .iload 4, .invokeinterface 2 2, .istore 2, .iinc 3 1, .goto 6]
noncomputable def am_B124_48 : List Instr := [.aload 0, .iload 1, .invokeinterface 94 2, .ret 0]
noncomputable def am_t124 : List (Nat × List Instr) := [(0, am_B124_0), (6, am_B124_6), (33, am_B124_33), (34, am_B124_34), (48, am_B124_48)]
noncomputable def am_B125_0 : List Instr := [.aload 0, .getfield 160, .aload 0, .getfield 162, .invokeinterface 88 2, .aload 0, .iload 1, .putfield 167, .aload 0, .invokeinterface 71 1, .aload 0, .sipush (-1), .putfield 167, .aload 0, .aload 0, .invokeinterface 72 1, .aload 0, .iload 1, .ldc 4, .invokeinterface 31 3, .isub, .invokeinterface 89 2, .ret 0]
noncomputable def am_t125 : List (Nat × List Instr) := [(0, am_B125_0)]
noncomputable def am_B126_0 : List Instr := [.iload 1, .ldc 0, .ldc 40, .invokeinterface 14 3, .ifCond .ne 17, .aload 0, .sipush (-1000001), .invokeinterface 15 2, .ret 0]
noncomputable def am_B126_17 : List Instr := [.aload 0, .getfield 128, .getfield 103, .ldc 2, .if_icmp .ge 35, .aload 0, .sipush (-1000004), .invokeinterface 15 2, .ret 0]
noncomputable def am_B126_35 : List Instr := [.ldc 0, .istore 2, .sipush (-1), .istore 3, .ldc 0, .istore 4, .goto_w 42]
noncomputable def am_B126_42 : List Instr := [.iload 4, .aload 0, .getfield 128, .getfield 103, .if_icmp .ge 113, .iload 4, .ldc 1, .iadd, .istore 5, .goto_w 60]
noncomputable def am_B126_60 : List Instr := [.iload 5, .aload 0, .getfield 128, .getfield 103, .if_icmp .ge 107, .aload 0, .iload 4, .iload 5, .iload 1, .invokeinterface 127 4, .istore 6, .iload 6, .iload 3, .if_icmp .le 101, .ldc 8, .iload 4, .imul, .iload 5, .iadd, .istore 2, .iload 6, .istore 3, .goto_w 101]
noncomputable def am_B126_101 : List Instr := [.iinc 5 1, .goto 60]
noncomputable def am_B126_107 : List Instr := [.iinc 4 1, .goto 42]
noncomputable def am_B126_113 : List Instr := [.iload 2, .ret 0]
noncomputable def am_t126 : List (Nat × List Instr) := [(0, am_B126_0), (17, am_B126_17), (35, am_B126_35), (42, am_B126_42), (60, am_B126_60), (101, am_B126_101), (107, am_B126_107), (113, am_B126_113)]
noncomputable def am_B127_0 : List Instr := [.aload 0, .getfield 130, .aload 0, .getfield 128, .invokeinterface 84 2, .aload 0, .getfield 130, .getfield 98, .iload 1, .aload 0, .getfield 128, .getfield 98, .iload 2, .iaload, .iastore, .aload 0, .getfield 130, .getfield 98, .iload 2, .aload 0, .getfield 128, .getfield 98, .iload 1, .iaload, .iastore, .aload 0, .getfield 130, .iload 3, .invokeinterface 67 2, .aload 0, .getfield 130, .invokeinterface 68 1, .ret 0]
noncomputable def am_t127 : List (Nat × List Instr) := [(0, am_B127_0)]
noncomputable def am_B128_0 : List Instr := [.iload 1, .ldc 0, .ldc 40, .invokeinterface 18 3, .ifCond .ne 17, .aload 0, .sipush (-1000001), .invokeinterface 21 2, .ret 0]
noncomputable def am_B128_17 : List Instr := [.sipush (-1), .istore 2, .sipush (-1), .istore 3, .ldc 0, .istore 4, .goto_w 24]
noncomputable def am_B128_24 : List Instr := [.iload 4, .aload 0, .getfield 160, .ldc 1, .iaload, .if_icmp .ge 101, .iload 4, .ldc 1, .iadd, .istore 5, .goto_w 41]
noncomputable def am_B128_41 : List Instr := [.iload 5, .aload 0, .getfield 160, .ldc 1, .iaload, .if_icmp .ge 95, .aload 0, .iload 4, .iload 5, .iload 1, .invokeinterface 129 4, .istore 6, .iload 6, .iload 3, .if_icmp .le 80, .ldc 8, .iload 4, .imul, .iload 5, .iadd, .goto 81]
noncomputable def am_B128_80 : List Instr := [.iload 2, .goto_w 81]
noncomputable def am_B128_81 : List Instr := [.istore 2, .iload 3, .iload 6, .invokeinterface 2 2, .istore 3, .iinc 5 1, .goto 41]
noncomputable def am_B128_95 : List Instr := [.iinc 4 1, .goto 24]
noncomputable def am_B128_101 : List Instr := [.aload 0, .iload 2, .invokeinterface 94 2, .ret 0]
noncomputable def am_t128 : List (Nat × List Instr) := [(0, am_B128_0), (17, am_B128_17), (24, am_B128_24), (41, am_B128_41), (80, am_B128_80), (81, am_B128_81), (95, am_B128_95), (101, am_B128_101)]
noncomputable def am_B129_0 : List Instr := [.aload 0, .getfield 160, .aload 0, .getfield 162, .invokeinterface 88 2, .aload 0, .iload 1, .ldc 1, .invokeinterface 32 2, .aload 0, .iload 2, .ldc 1, .invokeinterface 31 3, .invokeinterface 20 3, .istore 4, .aload 0, .getfield 160, .iload 2, .ldc 1, .invokeinterface 32 2, .iload 4, .iastore, .aload 0, .iload 3, .invokeinterface 70 2, .aload 0, .aload 0, .invokeinterface 72 1, .invokeinterface 89 2, .ret 0]
noncomputable def am_t129 : List (Nat × List Instr) := [(0, am_B129_0)]
noncomputable def am_B130_0 : List Instr := [.aload 0, .iload 1, .iload 2, .ldc 1, .invokeinterface 131 4, .ret 0]
noncomputable def am_t130 : List (Nat × List Instr) := [(0, am_B130_0)]
noncomputable def am_B131_0 : List Instr := [.iload 1, .invokeinterface 132 1, .ifCond .ne 14, .aload 0, .sipush (-1000001), .invokeinterface 15 2, .ret 0]
noncomputable def am_B131_14 : List Instr := [.aload 0, .getfield 132, .iload 1, .aaload, .invokeinterface 133 1, .ifCond .eq 33, .aload 0, .sipush (-1000006), .invokeinterface 15 2, .ret 0]
noncomputable def am_B131_33 : List Instr := [.aload 0, .iload 2, .invokeinterface 47 2, .ifCond .ne 48, .aload 0, .sipush (-1000001), .invokeinterface 15 2, .ret 0]
noncomputable def am_B131_48 : List Instr := [.ldc 0, .istore 4, .ldc 0, .istore 5, .goto_w 54]
noncomputable def am_B131_54 : List Instr := [.iload 5, .ldc 8, .if_icmp .ge 107, .aload 0, .getfield 128, .iload 2, .iload 3, .iload 5, .invokeinterface 56 4, .ifCond .eq 101, .aload 0, .aload 0, .getfield 132, .iload 1, .aaload, .iload 2, .iload 3, .iload 5, .invokeinterface 134 5, .ifCond .eq 101, .iload 4, .ldc 1, .iload 5, .ishl, .ior, .istore 4, .goto_w 101]
noncomputable def am_B131_101 : List Instr := [.iinc 5 1, .goto 54]
noncomputable def am_B131_107 : List Instr := [.iload 4, .ret 0]
noncomputable def am_t131 : List (Nat × List Instr) := [(0, am_B131_0), (14, am_B131_14), (33, am_B131_33), (48, am_B131_48), (54, am_B131_54), (101, am_B131_101), (107, am_B131_107)]
noncomputable def am_B132_0 : List Instr := [.iload 0, .ldc 0, .ldc 3, .invokeinterface 14 3, .ret 1]
noncomputable def am_t132 : List (Nat × List Instr) := [(0, am_B132_0)]
noncomputable def am_B133_0 : List Instr := [.aload 0, .getfield 1, .ifCond .ne 11, .ldc 1, .goto 12]
noncomputable def am_B133_11 : List Instr := [.ldc 0, .goto_w 12]
noncomputable def am_B133_12 : List Instr := [.ret 1]
noncomputable def am_t133 : List (Nat × List Instr) := [(0, am_B133_0), (11, am_B133_11), (12, am_B133_12)]
noncomputable def am_B134_0 : List Instr := [.aload 0, .getfield 130, .aload 0, .getfield 128, .invokeinterface 84 2, .aload 0, .getfield 130, .iload 2, .iload 3, .iload 4, .invokeinterface 57 4, .ldc 0, .istore 5, .goto_w 25]
noncomputable def am_B134_25 : List Instr := [.iload 5, .aload 1, .getfield 2, .if_icmp .ge 79, .aload 1, .getfield 0, .iload 5, .iaload, .istore 6, .iload 6, .sipush (-1), .if_icmp .eq 65, .iload 6, .aload 0, .getfield 130, .getfield 101, .iload 2, .iaload, .if_icmp .eq 65, .ldc 0, .ret 1]
noncomputable def am_B134_65 : List Instr := [.aload 0, .getfield 130, .ldc 1, .invokeinterface 67 2, .iinc 5 1, .goto 25]
noncomputable def am_B134_79 : List Instr := [.ldc 1, .ret 1]
noncomputable def am_t134 : List (Nat × List Instr) := [(0, am_B134_0), (25, am_B134_25), (65, am_B134_65), (79, am_B134_79)]
noncomputable def am_B135_0 : List Instr := [.aload 0, .iload 1, .invokeinterface 136 2, .ifCond .eq 18, .aload 0, .aload 0, .iload 1, .invokeinterface 136 2, .invokeinterface 21 2, .ret 0]
noncomputable def am_B135_18 : List Instr := [.aload 0, .iload 2, .invokeinterface 53 2, .ifCond .eq 38, .aload 0, .iload 1, .iload 2, .ldc 1, .ldc 8, .invokeinterface 138 5, .goto 44]
noncomputable def am_B135_38 : List Instr := [.aload 0, .sipush (-1000001), .invokeinterface 21 2, .goto_w 44]
noncomputable def am_B135_44 : List Instr := [.ret 0]
noncomputable def am_t135 : List (Nat × List Instr) := [(0, am_B135_0), (18, am_B135_18), (38, am_B135_38), (44, am_B135_44)]
noncomputable def am_B136_0 : List Instr := [.iload 1, .invokeinterface 137 1, .ifCond .ne 12, .sipush (-1000001), .goto 27]
noncomputable def am_B136_12 : List Instr := [.aload 0, .getfield 179, .iload 1, .iaload, .ifCond .ne 26, .sipush (-1000006), .goto 27]
noncomputable def am_B136_26 : List Instr := [.ldc 0, .goto_w 27]
noncomputable def am_B136_27 : List Instr := [.ret 0]
noncomputable def am_t136 : List (Nat × List Instr) := [(0, am_B136_0), (12, am_B136_12), (26, am_B136_26), (27, am_B136_27)]
noncomputable def am_B137_0 : List Instr := [.iload 0, .ldc 0, .ldc 3, .invokeinterface 18 3, .ret 1]
noncomputable def am_t137 : List (Nat × List Instr) := [(0, am_B137_0)]
noncomputable def am_B138_0 : List Instr := [.aload 0, .iload 2, .iload 3, .invokeinterface 31 3, .istore 5, .ldc 0, .istore 6, .ldc 0, .istore 7, .goto_w 14]
noncomputable def am_B138_14 : List Instr := [.iload 7, .iload 4, .if_icmp .ge 61, .aload 0, .getfield 160, .iload 2, .iload 3, .invokeinterface 32 2, .iload 7, .iastore, .iload 6, .aload 0, .iload 1, .iload 2, .invokeinterface 139 3, .ifCond .eq 51, .ldc 1, .iload 7, .ishl, .goto 52]
noncomputable def am_B138_51 : List Instr := [.ldc 0, .goto_w 52]
noncomputable def am_B138_52 : List Instr := [.ior, .istore 6, .iinc 7 1, .goto 14]
noncomputable def am_B138_61 : List Instr := [.aload 0, .getfield 160, .iload 2, .iload 3, .invokeinterface 32 2, .iload 5, .iastore, .iload 6, .ret 0]
noncomputable def am_t138 : List (Nat × List Instr) := [(0, am_B138_0), (14, am_B138_14), (51, am_B138_51), (52, am_B138_52), (61, am_B138_61)]
noncomputable def am_B139_0 : List Instr := [.aload 0, .getfield 160, .aload 0, .getfield 162, .invokeinterface 88 2, .ldc 1, .istore 3, .ldc 0, .istore 4, .goto_w 16]
noncomputable def am_B139_16 : List Instr := [.iload 4, .aload 0, .getfield 180, .iload 1, .iaload, .if_icmp .ge 78, .iload 3, .ifCond .eq 78, .aload 0, .getfield 181, .ldc 40, .iload 1, .imul, .iload 4, .iadd, .iaload, .istore 5, .iload 5, .sipush (-1), .if_icmp .eq 62, .iload 5, .aload 0, .iload 2, .ldc 4, .invokeinterface 31 3, .if_icmp .ne 66, .goto_w 62]
noncomputable def am_B139_62 : List Instr := [.ldc 1, .goto 67]
noncomputable def am_B139_66 : List Instr := [.ldc 0, .goto_w 67]
noncomputable def am_B139_67 : List Instr := [.istore 3, .aload 0, .invokeinterface 71 1, .iinc 4 1, .goto 16]
noncomputable def am_B139_78 : List Instr := [.aload 0, .getfield 162, .aload 0, .getfield 160, .invokeinterface 88 2, .iload 3, .ret 1]
noncomputable def am_t139 : List (Nat × List Instr) := [(0, am_B139_0), (16, am_B139_16), (62, am_B139_62), (66, am_B139_66), (67, am_B139_67), (78, am_B139_78)]
noncomputable def am_B140_0 : List Instr := [.aload 0, .iload 1, .iload 2, .ldc 0, .invokeinterface 131 4, .ret 0]
noncomputable def am_t140 : List (Nat × List Instr) := [(0, am_B140_0)]
noncomputable def am_B141_0 : List Instr := [.aload 0, .iload 1, .invokeinterface 136 2, .ifCond .eq 18, .aload 0, .aload 0, .iload 1, .invokeinterface 136 2, .invokeinterface 21 2, .ret 0]
noncomputable def am_B141_18 : List Instr := [.aload 0, .iload 2, .invokeinterface 53 2, .ifCond .eq 38, .aload 0, .iload 1, .iload 2, .ldc 0, .ldc 7, .invokeinterface 138 5, .goto 44]
noncomputable def am_B141_38 : List Instr := [.aload 0, .sipush (-1000001), .invokeinterface 21 2, .goto_w 44]
noncomputable def am_B141_44 : List Instr := [.ret 0]
noncomputable def am_t141 : List (Nat × List Instr) := [(0, am_B141_0), (18, am_B141_18), (38, am_B141_38), (44, am_B141_44)]
noncomputable def am_B142_0 : List Instr := [.iload 1, .ldc 1, .ldc 20, .invokeinterface 14 3, .ifCond .ne 17, .aload 0, .sipush (-1000001), .invokeinterface 15 2, .ret 0]
noncomputable def am_B142_17 : List Instr := [.aload 0, .getfield 128, .getfield 104, .ldc 99999, .iload 1, .isub, .if_icmp .le 38, .aload 0, .sipush (-1000005), .invokeinterface 15 2, .ret 0]
noncomputable def am_B142_38 : List Instr := [.ldc 0, .istore 2, .goto_w 40]
noncomputable def am_B142_40 : List Instr := [.iload 2, .iload 1, .if_icmp .ge 100, .aload 0, .getfield 128, .invokeinterface 143 1, .ldc 8, .irem, .istore 3, .aload 0, .getfield 128, .invokeinterface 143 1, .ldc 100, .irem, .istore 4, .iload 3, .invokeinterface 13 1, .ifCond .eq 86, .aload 0, .getfield 128, .getfield 96, .iload 3, .iload 4, .iastore, .goto_w 86]
noncomputable def am_B142_86 : List Instr := [.aload 0, .getfield 128, .ldc 1, .invokeinterface 67 2, .iinc 2 1, .goto 40]
noncomputable def am_B142_100 : List Instr := [.aload 0, .getfield 128, .invokeinterface 68 1, .ret 0]
noncomputable def am_t142 : List (Nat × List Instr) := [(0, am_B142_0), (17, am_B142_17), (38, am_B142_38), (40, am_B142_40), (86, am_B142_86), (100, am_B142_100)]
noncomputable def am_B143_0 : List Instr := [.aload 0, .aload 0, .getfield 105, .ldc 1103515245, .imul, .ldc 12345, .iadd, .putfield 105, .aload 0, .getfield 105, .ldc 8, .iushr, .ret 0]
noncomputable def am_t143 : List (Nat × List Instr) := [(0, am_B143_0)]
noncomputable def am_B144_0 : List Instr := [.iload 1, .ldc 1, .ldc 20, .invokeinterface 18 3, .ifCond .ne 17, .aload 0, .sipush (-1000001), .invokeinterface 21 2, .ret 0]
noncomputable def am_B144_17 : List Instr := [.aload 0, .getfield 160, .ldc 0, .iaload, .iload 1, .iadd, .ldc 99999, .if_icmp .le 37, .aload 0, .sipush (-1000005), .invokeinterface 21 2, .ret 0]
noncomputable def am_B144_37 : List Instr := [.ldc 0, .istore 2, .goto_w 39]
noncomputable def am_B144_39 : List Instr := [.iload 2, .iload 1, .if_icmp .ge 78, .aload 0, .invokeinterface 145 1, .ldc 8, .irem, .istore 3, .aload 0, .getfield 160, .ldc 13, .iload 3, .iadd, .aload 0, .invokeinterface 145 1, .ldc 100, .irem, .iastore, .aload 0, .invokeinterface 71 1, .iinc 2 1, .goto 39]
noncomputable def am_B144_78 : List Instr := [.aload 0, .invokeinterface 72 1, .ret 0]
noncomputable def am_t144 : List (Nat × List Instr) := [(0, am_B144_0), (17, am_B144_17), (37, am_B144_37), (39, am_B144_39), (78, am_B144_78)]
noncomputable def am_B145_0 : List Instr := [.aload 0, .getfield 160, .ldc 2, .aload 0, .getfield 160, .ldc 2, .iaload, .ldc 1103515245, .imul, .ldc 12345, .iadd, .iastore, .aload 0, .getfield 160, .ldc 2, .iaload, .ldc 8, .iushr, .ret 0]
noncomputable def am_t145 : List (Nat × List Instr) := [(0, am_B145_0)]
noncomputable def am_B146_0 : List Instr := [.iload 1, .ldc 0, .ldc 20, .invokeinterface 14 3, .ifCond .eq 19, .iload 2, .ldc 0, .ldc 1, .invokeinterface 14 3, .ifCond .ne 27, .goto_w 19]
noncomputable def am_B146_19 : List Instr := [.aload 0, .sipush (-1000001), .invokeinterface 15 2, .i2l, .ret 4]
noncomputable def am_B146_27 : List Instr := [.aload 0, .getfield 128, .invokeinterface 23 1, .ldc 8, .aload 0, .getfield 128, .invokeinterface 75 1, .invokeinterface 4 1, .isub, .istore 3, .ldc 8, .istore 4, .ldc 0, .istore 5, .goto_w 55]
noncomputable def am_B146_55 : List Instr := [.iload 5, .ldc 3, .if_icmp .ge 83, .iload 3, .ldc 2, .irem, .ifCond .ne 83, .iload 3, .ldc 2, .idiv, .istore 3, .iload 4, .ldc 2, .idiv, .istore 4, .iinc 5 1, .goto 55]
noncomputable def am_B146_83 : List Instr := [.iload 2, .ifCond .ne 91, .iload 3, .goto 93]
noncomputable def am_B146_91 : List Instr := [.iload 4, .goto_w 93]
noncomputable def am_B146_93 : List Instr := [.iload 1, .invokeinterface 147 2, .ret 4]
noncomputable def am_t146 : List (Nat × List Instr) := [(0, am_B146_0), (19, am_B146_19), (27, am_B146_27), (55, am_B146_55), (83, am_B146_83), (91, am_B146_91), (93, am_B146_93)]
noncomputable def am_B147_0 : List Instr := [.lconst 1, .lstore 2, .ldc 0, .istore 4, .goto_w 5]
noncomputable def am_B147_5 : List Instr := [.iload 4, .iload 1, .if_icmp .ge 22, .lload 2, .iload 0, .i2l, .lmul, .lstore 2, .iinc 4 1, .goto 5]
noncomputable def am_B147_22 : List Instr := [.lload 2, .ret 4]
noncomputable def am_t147 : List (Nat × List Instr) := [(0, am_B147_0), (5, am_B147_5), (22, am_B147_22)]
noncomputable def am_B148_0 : List Instr := [.iload 1, .ldc 0, .ldc 20, .invokeinterface 18 3, .ifCond .eq 19, .iload 2, .ldc 0, .ldc 1, .invokeinterface 18 3, .ifCond .ne 27, .goto_w 19]
noncomputable def am_B148_19 : List Instr := [.aload 0, .sipush (-1000001), .invokeinterface 21 2, .i2l, .ret 4]
noncomputable def am_B148_27 : List Instr := [.ldc 8, .aload 0, .invokeinterface 80 1, .invokeinterface 36 1, .isub, .istore 3, .ldc 8, .istore 4, .iload 3, .istore 5, .goto_w 45]
noncomputable def am_B148_45 : List Instr := [.iload 5, .ifCond .eq 68, .iload 4, .iload 5, .irem, .istore 6, .iload 5, .istore 4, .iload 6, .istore 5, .goto 45]
noncomputable def am_B148_68 : List Instr := [.lconst 1, .lstore 6, .ldc 0, .istore 8, .goto_w 74]
noncomputable def am_B148_74 : List Instr := [.iload 8, .iload 1, .if_icmp .ge 105, .lload 6, .iload 2, .ifCond .ne 90, .iload 3, .goto 92]
noncomputable def am_B148_90 : List Instr := [.ldc 8, .goto_w 92]
noncomputable def am_B148_92 : List Instr := [.iload 4, .idiv, .i2l, .lmul, .lstore 6, .iinc 8 1, .goto 74]
noncomputable def am_B148_105 : List Instr := [.lload 6, .ret 4]
noncomputable def am_t148 : List (Nat × List Instr) := [(0, am_B148_0), (19, am_B148_19), (27, am_B148_27), (45, am_B148_45), (68, am_B148_68), (74, am_B148_74), (90, am_B148_90), (92, am_B148_92), (105, am_B148_105)]
noncomputable def am_B149_0 : List Instr := [.aload 0, .getfield 128, .getfield 105, .istore 2, .aload 0, .getfield 128, .iload 1, .putfield 105, .iload 2, .ret 0]
noncomputable def am_t149 : List (Nat × List Instr) := [(0, am_B149_0)]
noncomputable def am_B150_0 : List Instr := [.aload 0, .ldc 2, .iload 1, .invokeinterface 20 3, .ret 0]
noncomputable def am_t150 : List (Nat × List Instr) := [(0, am_B150_0)]
noncomputable def am_B151_0 : List Instr := [.iload 2, .ldc 1, .ldc 4, .invokeinterface 14 3, .ifCond .ne 16, .aload 0, .sipush (-1000001), .invokeinterface 15 2, .ret 0]
noncomputable def am_B151_16 : List Instr := [.aload 0, .getfield 131, .getfield 64, .getfield 33, .iload 2, .iadd, .ldc 120, .if_icmp .le 40, .aload 0, .sipush (-1000002), .invokeinterface 15 2, .ret 0]
noncomputable def am_B151_40 : List Instr := [.iload 2, .ldc 1, .isub, .istore 3, .goto_w 44]
noncomputable def am_B151_44 : List Instr := [.iload 3, .ifCond .lt 74, .aload 0, .getfield 131, .getfield 64, .iload 1, .ldc 8, .iload 3, .imul, .iushr, .ldc 255, .iand, .invokeinterface 152 2, .iinc 3 (-1), .goto 44]
noncomputable def am_B151_74 : List Instr := [.aload 0, .getfield 131, .getfield 64, .getfield 33, .ret 0]
noncomputable def am_t151 : List (Nat × List Instr) := [(0, am_B151_0), (16, am_B151_16), (40, am_B151_40), (44, am_B151_44), (74, am_B151_74)]
noncomputable def am_B152_0 : List Instr := [.aload 0, .getfield 33, .ldc 120, .if_icmp .ge 29, .aload 0, .getfield 32, .aload 0, .getfield 33, .iload 1, .iastore, .aload 0, .dup, .getfield 33, .ldc 1, .iadd, .putfield 33, .goto_w 29]
noncomputable def am_B152_29 : List Instr := [.return_]
noncomputable def am_t152 : List (Nat × List Instr) := [(0, am_B152_0), (29, am_B152_29)]
noncomputable def am_B153_0 : List Instr := [.iload 2, .ldc 1, .ldc 4, .invokeinterface 18 3, .ifCond .ne 16, .aload 0, .sipush (-1000001), .invokeinterface 21 2, .ret 0]
noncomputable def am_B153_16 : List Instr := [.aload 0, .getfield 169, .iload 2, .iadd, .ldc 120, .if_icmp .le 34, .aload 0, .sipush (-1000002), .invokeinterface 21 2, .ret 0]
noncomputable def am_B153_34 : List Instr := [.iload 2, .ldc 1, .isub, .istore 3, .goto_w 38]
noncomputable def am_B153_38 : List Instr := [.iload 3, .ifCond .lt 77, .aload 0, .getfield 168, .aload 0, .getfield 169, .iload 1, .ldc 8, .iload 3, .imul, .ishr, .ldc 255, .iand, .iastore, .aload 0, .dup, .getfield 169, .ldc 1, .iadd, .putfield 169, .iinc 3 (-1), .goto 38]
noncomputable def am_B153_77 : List Instr := [.aload 0, .getfield 169, .ret 0]
noncomputable def am_t153 : List (Nat × List Instr) := [(0, am_B153_0), (16, am_B153_16), (34, am_B153_34), (38, am_B153_38), (77, am_B153_77)]
noncomputable def am_B154_0 : List Instr := [.aload 0, .getfield 131, .getfield 64, .getfield 33, .istore 1, .aload 0, .getfield 131, .getfield 64, .ldc 0, .putfield 33, .iload 1, .ret 0]
noncomputable def am_t154 : List (Nat × List Instr) := [(0, am_B154_0)]
noncomputable def am_B155_0 : List Instr := [.aload 0, .getfield 169, .istore 1, .aload 0, .ldc 0, .putfield 169, .iload 1, .ret 0]
noncomputable def am_t155 : List (Nat × List Instr) := [(0, am_B155_0)]
noncomputable def am_B156_0 : List Instr := [.aload 0, .getfield 131, .getfield 65, .aload 0, .getfield 128, .invokeinterface 84 2, .aload 0, .getfield 131, .invokeinterface 157 1, .istore 1, .aload 0, .getfield 131, .getfield 64, .ldc 0, .putfield 33, .iload 1, .ifCond .ne 47, .sipush (-1), .aload 0, .getfield 131, .getfield 67, .isub, .ret 0]
noncomputable def am_B156_47 : List Instr := [.aload 0, .getfield 128, .aload 0, .getfield 131, .getfield 65, .invokeinterface 84 2, .aload 0, .getfield 131, .getfield 66, .ret 0]
noncomputable def am_t156 : List (Nat × List Instr) := [(0, am_B156_0), (47, am_B156_47)]
noncomputable def am_B157_0 : List Instr := [.aload 0, .ldc 0, .putfield 66, .aload 0, .getfield 64, .invokeinterface 158 1, .goto_w 12]
noncomputable def am_B157_12 : List Instr := [.aload 0, .getfield 66, .ldc 120, .if_icmp .gt 81, .aload 0, .invokeinterface 162 1, .ifCond .ne 33, .aload 0, .invokeinterface 170 1, .ret 1]
noncomputable def am_B157_33 : List Instr := [.aload 0, .dup, .getfield 66, .ldc 1, .iadd, .putfield 66, .aload 0, .getfield 64, .getfield 34, .ifCond .ne 55, .ldc 1, .ret 1]
noncomputable def am_B157_55 : List Instr := [.aload 0, .getfield 64, .getfield 34, .ldc 3, .if_icmp .eq 71, .aload 0, .invokeinterface 170 1, .ret 1]
noncomputable def am_B157_71 : List Instr := [.aload 0, .getfield 64, .invokeinterface 159 1, .goto 12]
noncomputable def am_B157_81 : List Instr := [.aload 0, .invokeinterface 170 1, .ret 1]
noncomputable def am_t157 : List (Nat × List Instr) := [(0, am_B157_0), (12, am_B157_12), (33, am_B157_33), (55, am_B157_55), (71, am_B157_71), (81, am_B157_81)]
noncomputable def am_B158_0 : List Instr := [.aload 0, .ldc 0, .putfield 37, .aload 0, .invokeinterface 159 1, .return_]
noncomputable def am_t158 : List (Nat × List Instr) := [(0, am_B158_0)]
noncomputable def am_B159_0 : List Instr := [.aload 0, .aload 0, .getfield 37, .putfield 35, .goto_w 8]
noncomputable def am_B159_8 : List Instr := [.aload 0, .getfield 35, .aload 0, .getfield 33, .if_icmp .ge 46, .aload 0, .getfield 32, .aload 0, .getfield 35, .iaload, .ldc 32, .if_icmp .ne 46, .aload 0, .dup, .getfield 35, .ldc 1, .iadd, .putfield 35, .goto 8]
noncomputable def am_B159_46 : List Instr := [.aload 0, .aload 0, .getfield 35, .putfield 37, .aload 0, .getfield 35, .aload 0, .getfield 33, .if_icmp .lt 71, .aload 0, .ldc 0, .putfield 34, .return_]
noncomputable def am_B159_71 : List Instr := [.aload 0, .getfield 32, .aload 0, .getfield 35, .iaload, .istore 1, .iload 1, .ldc 97, .if_icmp .lt 105, .iload 1, .ldc 122, .if_icmp .gt 105, .aload 0, .ldc 1, .putfield 34, .aload 0, .invokeinterface 160 1, .goto 154]
noncomputable def am_B159_105 : List Instr := [.iload 1, .ldc 48, .if_icmp .lt 129, .iload 1, .ldc 57, .if_icmp .gt 129, .aload 0, .ldc 2, .putfield 34, .aload 0, .invokeinterface 161 1, .goto 154]
noncomputable def am_B159_129 : List Instr := [.aload 0, .iload 1, .ldc 59, .if_icmp .ne 140, .ldc 3, .goto 141]
noncomputable def am_B159_140 : List Instr := [.ldc 4, .goto_w 141]
noncomputable def am_B159_141 : List Instr := [.putfield 34, .aload 0, .aload 0, .getfield 35, .ldc 1, .iadd, .putfield 37, .goto_w 154]
noncomputable def am_B159_154 : List Instr := [.return_]
noncomputable def am_t159 : List (Nat × List Instr) := [(0, am_B159_0), (8, am_B159_8), (46, am_B159_46), (71, am_B159_71), (105, am_B159_105), (129, am_B159_129), (140, am_B159_140), (141, am_B159_141), (154, am_B159_154)]
noncomputable def am_B160_0 : List Instr := [.aload 0, .getfield 37, .aload 0, .getfield 33, .if_icmp .ge 52, .aload 0, .getfield 32, .aload 0, .getfield 37, .iaload, .ldc 97, .if_icmp .lt 52, .aload 0, .getfield 32, .aload 0, .getfield 37, .iaload, .ldc 122, .if_icmp .gt 52, .aload 0, .dup, .getfield 37, .ldc 1, .iadd, .putfield 37, .goto 0]
noncomputable def am_B160_52 : List Instr := [.return_]
noncomputable def am_t160 : List (Nat × List Instr) := [(0, am_B160_0), (52, am_B160_52)]
noncomputable def am_B161_0 : List Instr := [.aload 0, .ldc 0, .putfield 36, .goto_w 5]
noncomputable def am_B161_5 : List Instr := [.aload 0, .getfield 37, .aload 0, .getfield 33, .if_icmp .ge 91, .aload 0, .getfield 32, .aload 0, .getfield 37, .iaload, .ldc 48, .if_icmp .lt 91, .aload 0, .getfield 32, .aload 0, .getfield 37, .iaload, .ldc 57, .if_icmp .gt 91, .aload 0, .getfield 36, .ldc 9999, .if_icmp .gt 78, .aload 0, .aload 0, .getfield 36, .ldc 10, .imul, .aload 0, .getfield 32, .aload 0, .getfield 37, .iaload, .iadd, .ldc 48, .isub, .putfield 36, .goto_w 78]
noncomputable def am_B161_78 : List Instr := [.aload 0, .dup, .getfield 37, .ldc 1, .iadd, .putfield 37, .goto 5]
noncomputable def am_B161_91 : List Instr := [.return_]
noncomputable def am_t161 : List (Nat × List Instr) := [(0, am_B161_0), (5, am_B161_5), (78, am_B161_78), (91, am_B161_91)]
noncomputable def am_B162_0 : List Instr := [.aload 0, .getfield 64, .ldc_w 7, .invokeinterface 163 2, .ifCond .eq 24, .aload 0, .getfield 64, .invokeinterface 159 1, .aload 0, .invokeinterface 164 1, .ret 1]
noncomputable def am_B162_24 : List Instr := [.aload 0, .invokeinterface 166 1, .istore 1, .iload 1, .invokeinterface 41 1, .ifCond .eq 48, .aload 0, .getfield 65, .iload 1, .ldc 0, .invokeinterface 42 3, .goto 49]
noncomputable def am_B162_48 : List Instr := [.sipush (-1), .goto_w 49]
noncomputable def am_B162_49 : List Instr := [.istore 2, .iload 2, .sipush (-1), .if_icmp .ne 57, .ldc 0, .ret 1]
noncomputable def am_B162_57 : List Instr := [.aload 0, .getfield 64, .invokeinterface 159 1, .aload 0, .iload 2, .invokeinterface 168 2, .ret 1]
noncomputable def am_t162 : List (Nat × List Instr) := [(0, am_B162_0), (24, am_B162_24), (48, am_B162_48), (49, am_B162_49), (57, am_B162_57)]
noncomputable def am_B163_0 : List Instr := [.aload 0, .getfield 34, .ldc 1, .if_icmp .ne 24, .aload 0, .getfield 37, .aload 0, .getfield 35, .isub, .aload 1, .invokeinterface 5 1, .if_icmp .eq 26, .goto_w 24]
noncomputable def am_B163_24 : List Instr := [.ldc 0, .ret 1]
noncomputable def am_B163_26 : List Instr := [.ldc 0, .istore 2, .goto_w 28]
noncomputable def am_B163_28 : List Instr := [.iload 2, .aload 1, .invokeinterface 5 1, .if_icmp .ge 63, .aload 0, .getfield 32, .aload 0, .getfield 35, .iload 2, .iadd, .iaload, .aload 1, .iload 2, .invokeinterface 7 2, .if_icmp .eq 57, .ldc 0, .ret 1]
noncomputable def am_B163_57 : List Instr := [.iinc 2 1, .goto 28]
noncomputable def am_B163_63 : List Instr := [.ldc 1, .ret 1]
noncomputable def am_t163 : List (Nat × List Instr) := [(0, am_B163_0), (24, am_B163_24), (26, am_B163_26), (28, am_B163_28), (57, am_B163_57), (63, am_B163_63)]
noncomputable def am_B164_0 : List Instr := [.aload 0, .ldc 7, .invokeinterface 165 2, .ifCond .ne 11, .ldc 0, .ret 1]
noncomputable def am_B164_11 : List Instr := [.aload 0, .getfield 64, .getfield 36, .istore 1, .aload 0, .getfield 64, .invokeinterface 159 1, .aload 0, .ldc 9999, .invokeinterface 165 2, .ifCond .ne 38, .ldc 0, .ret 1]
noncomputable def am_B164_38 : List Instr := [.aload 0, .getfield 65, .getfield 96, .iload 1, .aload 0, .getfield 64, .getfield 36, .iastore, .aload 0, .getfield 64, .invokeinterface 159 1, .ldc 1, .ret 1]
noncomputable def am_t164 : List (Nat × List Instr) := [(0, am_B164_0), (11, am_B164_11), (38, am_B164_38)]
noncomputable def am_B165_0 : List Instr := [.aload 0, .getfield 64, .getfield 34, .ldc 2, .if_icmp .ne 26, .aload 0, .getfield 64, .getfield 36, .iload 1, .if_icmp .gt 26, .ldc 1, .goto 27]
noncomputable def am_B165_26 : List Instr := [.ldc 0, .goto_w 27]
noncomputable def am_B165_27 : List Instr := [.ret 1]
noncomputable def am_t165 : List (Nat × List Instr) := [(0, am_B165_0), (26, am_B165_26), (27, am_B165_27)]
noncomputable def am_B166_0 : List Instr := [.ldc 0, .istore 1, .goto_w 2]
noncomputable def am_B166_2 : List Instr := [.iload 1, .ldc 7, .if_icmp .ge 30, .aload 0, .getfield 64, .iload 1, .invokeinterface 167 1, .invokeinterface 163 2, .ifCond .eq 24, .iload 1, .ret 0]
noncomputable def am_B166_24 : List Instr := [.iinc 1 1, .goto 2]
noncomputable def am_B166_30 : List Instr := [.sipush (-1), .ret 0]
noncomputable def am_t166 : List (Nat × List Instr) := [(0, am_B166_0), (2, am_B166_2), (24, am_B166_24), (30, am_B166_30)]
noncomputable def am_B167_0 : List Instr := [.iload 0, .tableswitch 58 0 5 #[40, 43, 46, 49, 52, 55]]
noncomputable def am_B167_40 : List Instr := [.ldc_w 0, .ret 5]
noncomputable def am_B167_43 : List Instr := [.ldc_w 1, .ret 5]
noncomputable def am_B167_46 : List Instr := [.ldc_w 2, .ret 5]
noncomputable def am_B167_49 : List Instr := [.ldc_w 3, .ret 5]
noncomputable def am_B167_52 : List Instr := [.ldc_w 4, .ret 5]
noncomputable def am_B167_55 : List Instr := [.ldc_w 5, .ret 5]
noncomputable def am_B167_58 : List Instr := [.ldc_w 6, .ret 5]
noncomputable def am_t167 : List (Nat × List Instr) := [(0, am_B167_0), (40, am_B167_40), (43, am_B167_43), (46, am_B167_46), (49, am_B167_49), (52, am_B167_52), (55, am_B167_55), (58, am_B167_58)]
noncomputable def am_B168_0 : List Instr := [.aload 0, .ldc_w 8, .iload 1, .ldc 1, .ldc 7, .invokeinterface 169 5, .ifCond .eq 44, .aload 0, .ldc_w 9, .iload 1, .ldc 2, .ldc 7, .invokeinterface 169 5, .ifCond .eq 44, .aload 0, .ldc_w 10, .iload 1, .ldc 3, .iload 1, .ldc 1, .isub, .invokeinterface 169 5, .ifCond .eq 44, .ldc 1, .goto 45]
noncomputable def am_B168_44 : List Instr := [.ldc 0, .goto_w 45]
noncomputable def am_B168_45 : List Instr := [.ret 1]
noncomputable def am_t168 : List (Nat × List Instr) := [(0, am_B168_0), (44, am_B168_44), (45, am_B168_45)]
noncomputable def am_B169_0 : List Instr := [.aload 0, .getfield 64, .aload 1, .invokeinterface 163 2, .ifCond .ne 13, .ldc 1, .ret 1]
noncomputable def am_B169_13 : List Instr := [.aload 0, .getfield 64, .invokeinterface 159 1, .aload 0, .iload 4, .invokeinterface 165 2, .ifCond .ne 31, .ldc 0, .ret 1]
noncomputable def am_B169_31 : List Instr := [.aload 0, .getfield 65, .iload 2, .iload 3, .aload 0, .getfield 64, .getfield 36, .invokeinterface 57 4, .aload 0, .getfield 64, .invokeinterface 159 1, .ldc 1, .ret 1]
noncomputable def am_t169 : List (Nat × List Instr) := [(0, am_B169_0), (13, am_B169_13), (31, am_B169_31)]
noncomputable def am_B170_0 : List Instr := [.aload 0, .aload 0, .getfield 64, .getfield 35, .putfield 67, .ldc 0, .ret 1]
noncomputable def am_t170 : List (Nat × List Instr) := [(0, am_B170_0)]
noncomputable def am_B171_0 : List Instr := [.aload 0, .ldc 0, .putfield 171, .aload 0, .ldc 0, .putfield 174, .aload 0, .ldc 0, .putfield 177, .aload 0, .aload 0, .getfield 160, .ldc 1, .iaload, .putfield 178, .aload 0, .invokeinterface 172 1, .aload 0, .invokeinterface 174 1, .goto_w 33]
noncomputable def am_B171_33 : List Instr := [.aload 0, .getfield 174, .ifCond .ne 74, .aload 0, .getfield 172, .ldc 3, .if_icmp .ne 74, .aload 0, .getfield 168, .aload 0, .getfield 170, .iaload, .ldc 59, .if_icmp .ne 74, .aload 0, .ldc 1, .invokeinterface 177 2, .aload 0, .invokeinterface 174 1, .goto 33]
noncomputable def am_B171_74 : List Instr := [.aload 0, .aload 0, .getfield 172, .ifCond .ne 86, .ldc 1, .goto 87]
noncomputable def am_B171_86 : List Instr := [.ldc 0, .goto_w 87]
noncomputable def am_B171_87 : List Instr := [.invokeinterface 177 2, .aload 0, .ldc 0, .putfield 169, .aload 0, .getfield 174, .ifCond .eq 109, .sipush (-1), .aload 0, .getfield 170, .isub, .ret 0]
noncomputable def am_B171_109 : List Instr := [.ldc 0, .istore 1, .ldc 0, .istore 2, .goto_w 113]
noncomputable def am_B171_113 : List Instr := [.iload 2, .aload 0, .getfield 177, .if_icmp .ge 145, .iload 1, .aload 0, .ldc 4, .iload 2, .imul, .invokeinterface 181 2, .ifCond .ge 136, .ldc 0, .goto 137]
noncomputable def am_B171_136 : List Instr := [.ldc 1, .goto_w 137]
noncomputable def am_B171_137 : List Instr := [.iadd, .istore 1, .iinc 2 1, .goto 113]
noncomputable def am_B171_145 : List Instr := [.iload 1, .ret 0]
noncomputable def am_t171 : List (Nat × List Instr) := [(0, am_B171_0), (33, am_B171_33), (74, am_B171_74), (86, am_B171_86), (87, am_B171_87), (109, am_B171_109), (113, am_B171_113), (136, am_B171_136), (137, am_B171_137), (145, am_B171_145)]
noncomputable def am_B172_0 : List Instr := [.aload 0, .aload 0, .getfield 171, .putfield 170, .goto_w 8]
noncomputable def am_B172_8 : List Instr := [.aload 0, .aload 0, .getfield 170, .invokeinterface 173 2, .ldc 32, .if_icmp .ne 34, .aload 0, .dup, .getfield 170, .ldc 1, .iadd, .putfield 170, .goto 8]
noncomputable def am_B172_34 : List Instr := [.aload 0, .aload 0, .getfield 170, .invokeinterface 173 2, .istore 1, .aload 0, .aload 0, .getfield 170, .putfield 171, .aload 0, .ldc 0, .putfield 173, .iload 1, .ifCond .ge 68, .aload 0, .ldc 0, .putfield 172, .goto 206]
noncomputable def am_B172_68 : List Instr := [.iload 1, .ldc 97, .ldc 122, .invokeinterface 18 3, .ifCond .eq 115, .aload 0, .ldc 1, .putfield 172, .goto_w 84]
noncomputable def am_B172_84 : List Instr := [.aload 0, .aload 0, .getfield 171, .invokeinterface 173 2, .ldc 97, .ldc 122, .invokeinterface 18 3, .ifCond .eq 206, .aload 0, .dup, .getfield 171, .ldc 1, .iadd, .putfield 171, .goto 84]
noncomputable def am_B172_115 : List Instr := [.iload 1, .ldc 48, .ldc 57, .invokeinterface 18 3, .ifCond .eq 191, .aload 0, .ldc 2, .putfield 172, .goto_w 131]
noncomputable def am_B172_131 : List Instr := [.aload 0, .aload 0, .getfield 171, .invokeinterface 173 2, .ldc 48, .ldc 57, .invokeinterface 18 3, .ifCond .eq 206, .aload 0, .ldc 10000, .ldc 10, .aload 0, .getfield 173, .imul, .aload 0, .aload 0, .getfield 171, .invokeinterface 173 2, .iadd, .ldc 48, .isub, .invokeinterface 1 2, .putfield 173, .aload 0, .dup, .getfield 171, .ldc 1, .iadd, .putfield 171, .goto 131]
noncomputable def am_B172_191 : List Instr := [.aload 0, .ldc 3, .putfield 172, .aload 0, .dup, .getfield 171, .ldc 1, .iadd, .putfield 171, .goto_w 206]
noncomputable def am_B172_206 : List Instr := [.return_]
noncomputable def am_t172 : List (Nat × List Instr) := [(0, am_B172_0), (8, am_B172_8), (34, am_B172_34), (68, am_B172_68), (84, am_B172_84), (115, am_B172_115), (131, am_B172_131), (191, am_B172_191), (206, am_B172_206)]
noncomputable def am_B173_0 : List Instr := [.iload 1, .aload 0, .getfield 169, .if_icmp .ge 17, .aload 0, .getfield 168, .iload 1, .iaload, .goto 18]
noncomputable def am_B173_17 : List Instr := [.sipush (-1), .goto_w 18]
noncomputable def am_B173_18 : List Instr := [.ret 0]
noncomputable def am_t173 : List (Nat × List Instr) := [(0, am_B173_0), (17, am_B173_17), (18, am_B173_18)]
noncomputable def am_B174_0 : List Instr := [.aload 0, .invokeinterface 175 1, .istore 1, .iload 1, .ifCond .lt 83, .aload 0, .aload 0, .getfield 178, .ldc 8, .if_icmp .ge 23, .ldc 1, .goto 24]
noncomputable def am_B174_23 : List Instr := [.ldc 0, .goto_w 24]
noncomputable def am_B174_24 : List Instr := [.invokeinterface 177 2, .aload 0, .ldc_w 8, .ldc 7, .ldc 0, .invokeinterface 178 4, .istore 2, .aload 0, .ldc_w 9, .ldc 7, .ldc 1, .invokeinterface 178 4, .istore 3, .aload 0, .iload 1, .iload 2, .iload 3, .aload 0, .ldc_w 10, .aload 0, .getfield 178, .ldc 1, .isub, .sipush (-1), .invokeinterface 178 4, .invokeinterface 180 5, .aload 0, .dup, .getfield 178, .ldc 1, .iadd, .putfield 178, .goto 118]
noncomputable def am_B174_83 : List Instr := [.aload 0, .aload 0, .ldc_w 7, .invokeinterface 176 2, .invokeinterface 177 2, .aload 0, .ldc 0, .ldc 7, .invokeinterface 179 3, .istore 2, .aload 0, .ldc 10, .iload 2, .aload 0, .ldc 0, .ldc 9999, .invokeinterface 179 3, .ldc 0, .invokeinterface 180 5, .goto_w 118]
noncomputable def am_B174_118 : List Instr := [.return_]
noncomputable def am_t174 : List (Nat × List Instr) := [(0, am_B174_0), (23, am_B174_23), (24, am_B174_24), (83, am_B174_83), (118, am_B174_118)]
noncomputable def am_B175_0 : List Instr := [.sipush (-1), .istore 1, .ldc 0, .istore 2, .goto_w 4]
noncomputable def am_B175_4 : List Instr := [.iload 2, .aload 0, .getfield 175, .arraylength, .if_icmp .ge 38, .aload 0, .aload 0, .getfield 175, .iload 2, .aaload, .invokeinterface 176 2, .ifCond .eq 30, .iload 2, .goto 31]
noncomputable def am_B175_30 : List Instr := [.iload 1, .goto_w 31]
noncomputable def am_B175_31 : List Instr := [.istore 1, .iinc 2 1, .goto 4]
noncomputable def am_B175_38 : List Instr := [.iload 1, .ret 0]
noncomputable def am_t175 : List (Nat × List Instr) := [(0, am_B175_0), (4, am_B175_4), (30, am_B175_30), (31, am_B175_31), (38, am_B175_38)]
noncomputable def am_B176_0 : List Instr := [.aload 0, .getfield 172, .ldc 1, .if_icmp .ne 28, .aload 0, .getfield 171, .aload 0, .getfield 170, .isub, .aload 1, .invokeinterface 5 1, .if_icmp .ne 28, .ldc 1, .goto 29]
noncomputable def am_B176_28 : List Instr := [.ldc 0, .goto_w 29]
noncomputable def am_B176_29 : List Instr := [.istore 2, .ldc 0, .istore 3, .goto_w 32]
noncomputable def am_B176_32 : List Instr := [.iload 3, .aload 1, .invokeinterface 5 1, .if_icmp .ge 75, .iload 2, .ifCond .eq 75, .aload 0, .getfield 168, .aload 0, .getfield 170, .iload 3, .iadd, .iaload, .aload 1, .iload 3, .invokeinterface 7 2, .if_icmp .ne 67, .ldc 1, .goto 68]
noncomputable def am_B176_67 : List Instr := [.ldc 0, .goto_w 68]
noncomputable def am_B176_68 : List Instr := [.istore 2, .iinc 3 1, .goto 32]
noncomputable def am_B176_75 : List Instr := [.iload 2, .ret 1]
noncomputable def am_t176 : List (Nat × List Instr) := [(0, am_B176_0), (28, am_B176_28), (29, am_B176_29), (32, am_B176_32), (67, am_B176_67), (68, am_B176_68), (75, am_B176_75)]
noncomputable def am_B177_0 : List Instr := [.aload 0, .aload 0, .getfield 174, .ifCond .ne 12, .iload 1, .ifCond .ne 16, .goto_w 12]
noncomputable def am_B177_12 : List Instr := [.ldc 1, .goto 17]
noncomputable def am_B177_16 : List Instr := [.ldc 0, .goto_w 17]
noncomputable def am_B177_17 : List Instr := [.putfield 174, .aload 0, .getfield 174, .ifCond .ne 31, .aload 0, .invokeinterface 172 1, .goto_w 31]
noncomputable def am_B177_31 : List Instr := [.return_]
noncomputable def am_t177 : List (Nat × List Instr) := [(0, am_B177_0), (12, am_B177_12), (16, am_B177_16), (17, am_B177_17), (31, am_B177_31)]
noncomputable def am_B178_0 : List Instr := [.aload 0, .getfield 174, .ifCond .ne 15, .aload 0, .aload 1, .invokeinterface 176 2, .ifCond .ne 17, .goto_w 15]
noncomputable def am_B178_15 : List Instr := [.iload 3, .ret 0]
noncomputable def am_B178_17 : List Instr := [.aload 0, .ldc 1, .invokeinterface 177 2, .aload 0, .ldc 0, .iload 2, .invokeinterface 179 3, .ret 0]
noncomputable def am_t178 : List (Nat × List Instr) := [(0, am_B178_0), (15, am_B178_15), (17, am_B178_17)]
noncomputable def am_B179_0 : List Instr := [.aload 0, .getfield 173, .istore 3, .aload 0, .aload 0, .getfield 172, .ldc 2, .if_icmp .ne 27, .iload 3, .iload 1, .iload 2, .invokeinterface 18 3, .ifCond .eq 27, .ldc 1, .goto 28]
noncomputable def am_B179_27 : List Instr := [.ldc 0, .goto_w 28]
noncomputable def am_B179_28 : List Instr := [.invokeinterface 177 2, .iload 3, .ret 0]
noncomputable def am_t179 : List (Nat × List Instr) := [(0, am_B179_0), (27, am_B179_27), (28, am_B179_28)]
noncomputable def am_B180_0 : List Instr := [.ldc 4, .aload 0, .getfield 177, .imul, .istore 5, .aload 0, .getfield 176, .iload 5, .iload 1, .iastore, .aload 0, .getfield 176, .iload 5, .ldc 1, .iadd, .iload 2, .iastore, .aload 0, .getfield 176, .iload 5, .ldc 2, .iadd, .iload 3, .iastore, .aload 0, .getfield 176, .iload 5, .ldc 3, .iadd, .iload 4, .iastore, .aload 0, .dup, .getfield 177, .ldc 1, .iadd, .putfield 177, .return_]
noncomputable def am_t180 : List (Nat × List Instr) := [(0, am_B180_0)]
noncomputable def am_B181_0 : List Instr := [.aload 0, .getfield 176, .iload 1, .ldc 1, .iadd, .iaload, .istore 2, .aload 0, .getfield 176, .iload 1, .ldc 2, .iadd, .iaload, .istore 3, .aload 0, .getfield 176, .iload 1, .iaload, .ldc 10, .if_icmp .ne 41, .aload 0, .ldc 13, .iload 2, .iadd, .iload 3, .invokeinterface 20 3, .goto 61]
noncomputable def am_B181_41 : List Instr := [.aload 0, .aload 0, .getfield 176, .iload 1, .iaload, .iload 2, .iload 3, .aload 0, .getfield 176, .iload 1, .ldc 3, .iadd, .iaload, .invokeinterface 45 5, .goto_w 61]
noncomputable def am_B181_61 : List Instr := [.ret 0]
noncomputable def am_t181 : List (Nat × List Instr) := [(0, am_B181_0), (41, am_B181_41), (61, am_B181_61)]
noncomputable def am_B182_0 : List Instr := [.iload 1, .invokeinterface 183 1, .ifCond .eq 20, .iload 2, .sipush (-1), .if_icmp .eq 27, .aload 0, .iload 2, .invokeinterface 47 2, .ifCond .ne 27, .goto_w 20]
noncomputable def am_B182_20 : List Instr := [.aload 0, .sipush (-1000001), .invokeinterface 15 2, .ret 0]
noncomputable def am_B182_27 : List Instr := [.aload 0, .getfield 128, .getfield 102, .iload 1, .iload 2, .iastore, .ldc 1, .ret 0]
noncomputable def am_t182 : List (Nat × List Instr) := [(0, am_B182_0), (20, am_B182_20), (27, am_B182_27)]
noncomputable def am_B183_0 : List Instr := [.iload 0, .ldc 0, .ldc 9, .invokeinterface 14 3, .ret 1]
noncomputable def am_t183 : List (Nat × List Instr) := [(0, am_B183_0)]
noncomputable def am_B184_0 : List Instr := [.iload 1, .invokeinterface 185 1, .ifCond .eq 20, .iload 2, .sipush (-1), .if_icmp .eq 27, .aload 0, .iload 2, .invokeinterface 53 2, .ifCond .ne 27, .goto_w 20]
noncomputable def am_B184_20 : List Instr := [.aload 0, .sipush (-1000001), .invokeinterface 21 2, .ret 0]
noncomputable def am_B184_27 : List Instr := [.aload 0, .getfield 160, .ldc 3, .iload 1, .iadd, .iload 2, .iastore, .ldc 1, .ret 0]
noncomputable def am_t184 : List (Nat × List Instr) := [(0, am_B184_0), (20, am_B184_20), (27, am_B184_27)]
noncomputable def am_B185_0 : List Instr := [.iload 0, .ldc 0, .ldc 9, .invokeinterface 18 3, .ret 1]
noncomputable def am_t185 : List (Nat × List Instr) := [(0, am_B185_0)]
noncomputable def am_B186_0 : List Instr := [.iload 1, .invokeinterface 183 1, .ifCond .eq 14, .iload 2, .invokeinterface 41 1, .ifCond .ne 21, .goto_w 14]
noncomputable def am_B186_14 : List Instr := [.aload 0, .sipush (-1000001), .invokeinterface 15 2, .ret 0]
noncomputable def am_B186_21 : List Instr := [.aload 0, .getfield 128, .getfield 102, .iload 1, .iaload, .istore 3, .aload 0, .iload 3, .invokeinterface 47 2, .ifCond .ne 46, .aload 0, .sipush (-1000006), .invokeinterface 15 2, .ret 0]
noncomputable def am_B186_46 : List Instr := [.aload 0, .getfield 128, .getfield 97, .iload 3, .iaload, .iload 2, .invokeinterface 187 2, .ifCond .ne 69, .aload 0, .sipush (-1000003), .invokeinterface 15 2, .ret 0]
noncomputable def am_B186_69 : List Instr := [.iload 3, .ret 0]
noncomputable def am_t186 : List (Nat × List Instr) := [(0, am_B186_0), (14, am_B186_14), (21, am_B186_21), (46, am_B186_46), (69, am_B186_69)]
noncomputable def am_B187_0 : List Instr := [.iload 0, .istore 2, .ldc 0, .istore 3, .goto_w 4]
noncomputable def am_B187_4 : List Instr := [.iload 3, .ldc 7, .if_icmp .ge 36, .iload 2, .invokeinterface 41 1, .ifCond .eq 36, .iload 2, .iload 1, .if_icmp .ne 24, .ldc 1, .ret 1]
noncomputable def am_B187_24 : List Instr := [.getstatic 0, .iload 2, .iaload, .istore 2, .iinc 3 1, .goto 4]
noncomputable def am_B187_36 : List Instr := [.ldc 0, .ret 1]
noncomputable def am_t187 : List (Nat × List Instr) := [(0, am_B187_0), (4, am_B187_4), (24, am_B187_24), (36, am_B187_36)]
noncomputable def am_B188_0 : List Instr := [.iload 1, .invokeinterface 185 1, .ifCond .eq 14, .iload 2, .invokeinterface 44 1, .ifCond .ne 21, .goto_w 14]
noncomputable def am_B188_14 : List Instr := [.aload 0, .sipush (-1000001), .invokeinterface 21 2, .ret 0]
noncomputable def am_B188_21 : List Instr := [.aload 0, .getfield 160, .ldc 3, .iload 1, .iadd, .iaload, .istore 3, .iload 3, .ifCond .ge 41, .aload 0, .sipush (-1000006), .invokeinterface 21 2, .ret 0]
noncomputable def am_B188_41 : List Instr := [.aload 0, .iload 3, .ldc 0, .invokeinterface 31 3, .iload 2, .invokeinterface 189 2, .ifCond .eq 58, .iload 3, .goto 65]
noncomputable def am_B188_58 : List Instr := [.aload 0, .sipush (-1000003), .invokeinterface 21 2, .goto_w 65]
noncomputable def am_B188_65 : List Instr := [.ret 0]
noncomputable def am_t188 : List (Nat × List Instr) := [(0, am_B188_0), (14, am_B188_14), (21, am_B188_21), (41, am_B188_41), (58, am_B188_58), (65, am_B188_65)]
noncomputable def am_B189_0 : List Instr := [.iload 0, .istore 2, .goto_w 2]
noncomputable def am_B189_2 : List Instr := [.iload 2, .ifCond .lt 19, .iload 2, .iload 1, .if_icmp .eq 19, .iload 2, .invokeinterface 190 1, .istore 2, .goto 2]
noncomputable def am_B189_19 : List Instr := [.iload 2, .ifCond .lt 27, .ldc 1, .goto 28]
noncomputable def am_B189_27 : List Instr := [.ldc 0, .goto_w 28]
noncomputable def am_B189_28 : List Instr := [.ret 1]
noncomputable def am_t189 : List (Nat × List Instr) := [(0, am_B189_0), (2, am_B189_2), (19, am_B189_19), (27, am_B189_27), (28, am_B189_28)]
noncomputable def am_B190_0 : List Instr := [.iload 0, .ifCond .ne 8, .sipush (-1), .goto 37]
noncomputable def am_B190_8 : List Instr := [.iload 0, .ldc 3, .if_icmp .ne 17, .ldc 2, .goto 37]
noncomputable def am_B190_17 : List Instr := [.iload 0, .ldc 4, .if_icmp .ne 26, .ldc 3, .goto 37]
noncomputable def am_B190_26 : List Instr := [.iload 0, .ldc 6, .if_icmp .ne 36, .ldc 1, .goto 37]
noncomputable def am_B190_36 : List Instr := [.ldc 0, .goto_w 37]
noncomputable def am_B190_37 : List Instr := [.ret 0]
noncomputable def am_t190 : List (Nat × List Instr) := [(0, am_B190_0), (8, am_B190_8), (17, am_B190_17), (26, am_B190_26), (36, am_B190_36), (37, am_B190_37)]
noncomputable def am_B191_0 : List Instr := [.iload 1, .invokeinterface 132 1, .ifCond .eq 29, .iload 2, .ifCond .eq 36, .iload 2, .ldc 8, .if_icmp .eq 36, .iload 2, .ldc 16, .if_icmp .eq 36, .iload 2, .ldc 32, .if_icmp .eq 36, .goto_w 29]
noncomputable def am_B191_29 : List Instr := [.aload 0, .sipush (-1000001), .invokeinterface 15 2, .ret 0]
noncomputable def am_B191_36 : List Instr := [.iload 3, .ifCond .ge 47, .aload 0, .sipush (-1000007), .invokeinterface 15 2, .ret 0]
noncomputable def am_B191_47 : List Instr := [.iload 3, .ldc 40, .if_icmp .le 60, .aload 0, .sipush (-1000001), .invokeinterface 15 2, .ret 0]
noncomputable def am_B191_60 : List Instr := [.aload 0, .getfield 132, .iload 1, .aaload, .iload 2, .iload 3, .invokeinterface 192 3, .aload 0, .getfield 132, .iload 1, .aaload, .getfield 2, .ret 0]
noncomputable def am_t191 : List (Nat × List Instr) := [(0, am_B191_0), (29, am_B191_29), (36, am_B191_36), (47, am_B191_47), (60, am_B191_60)]
noncomputable def am_B192_0 : List Instr := [.aload 0, .iload 1, .putfield 1, .aload 0, .iload 1, .ifCond .ne 14, .ldc 0, .goto 15]
noncomputable def am_B192_14 : List Instr := [.iload 2, .goto_w 15]
noncomputable def am_B192_15 : List Instr := [.putfield 2, .aload 0, .getfield 0, .ldc 0, .invokeinterface 0 2, .return_]
noncomputable def am_t192 : List (Nat × List Instr) := [(0, am_B192_0), (14, am_B192_14), (15, am_B192_15)]
noncomputable def am_B193_0 : List Instr := [.iload 1, .invokeinterface 137 1, .ifCond .eq 29, .iload 2, .ifCond .eq 36, .iload 2, .ldc 8, .if_icmp .eq 36, .iload 2, .ldc 16, .if_icmp .eq 36, .iload 2, .ldc 32, .if_icmp .eq 36, .goto_w 29]
noncomputable def am_B193_29 : List Instr := [.aload 0, .sipush (-1000001), .invokeinterface 21 2, .ret 0]
noncomputable def am_B193_36 : List Instr := [.iload 3, .ifCond .ge 48, .aload 0, .sipush (-1000007), .invokeinterface 21 2, .ret 0]
noncomputable def am_B193_48 : List Instr := [.iload 3, .ldc 40, .if_icmp .le 61, .aload 0, .sipush (-1000001), .invokeinterface 21 2, .ret 0]
noncomputable def am_B193_61 : List Instr := [.aload 0, .getfield 179, .iload 1, .iload 2, .iastore, .aload 0, .getfield 180, .iload 1, .iload 2, .ifCond .ne 81, .ldc 0, .goto 82]
noncomputable def am_B193_81 : List Instr := [.iload 3, .goto_w 82]
noncomputable def am_B193_82 : List Instr := [.iastore, .ldc 0, .istore 4, .goto_w 86]
noncomputable def am_B193_86 : List Instr := [.iload 4, .ldc 40, .if_icmp .ge 112, .aload 0, .getfield 181, .ldc 40, .iload 1, .imul, .iload 4, .iadd, .ldc 0, .iastore, .iinc 4 1, .goto 86]
noncomputable def am_B193_112 : List Instr := [.aload 0, .getfield 180, .iload 1, .iaload, .ret 0]
noncomputable def am_t193 : List (Nat × List Instr) := [(0, am_B193_0), (29, am_B193_29), (36, am_B193_36), (48, am_B193_48), (61, am_B193_61), (81, am_B193_81), (82, am_B193_82), (86, am_B193_86), (112, am_B193_112)]
noncomputable def am_B194_0 : List Instr := [.iload 1, .invokeinterface 132 1, .ifCond .ne 14, .aload 0, .sipush (-1000001), .invokeinterface 15 2, .ret 0]
noncomputable def am_B194_14 : List Instr := [.aload 0, .getfield 132, .iload 1, .aaload, .invokeinterface 133 1, .ifCond .eq 33, .aload 0, .sipush (-1000006), .invokeinterface 15 2, .ret 0]
noncomputable def am_B194_33 : List Instr := [.aload 0, .getfield 132, .iload 1, .aaload, .iload 2, .ldc 1, .invokeinterface 195 3, .ifCond .ne 54, .aload 0, .sipush (-1000001), .invokeinterface 15 2, .ret 0]
noncomputable def am_B194_54 : List Instr := [.aload 0, .getfield 132, .iload 1, .aaload, .iload 2, .iload 3, .invokeinterface 196 3, .ldc 1, .ret 0]
noncomputable def am_t194 : List (Nat × List Instr) := [(0, am_B194_0), (14, am_B194_14), (33, am_B194_33), (54, am_B194_54)]
noncomputable def am_B195_0 : List Instr := [.iload 1, .ifCond .lt 30, .iload 2, .ifCond .lt 30, .iload 2, .aload 0, .getfield 2, .if_icmp .gt 30, .iload 1, .aload 0, .getfield 2, .iload 2, .isub, .if_icmp .gt 30, .ldc 1, .goto 31]
noncomputable def am_B195_30 : List Instr := [.ldc 0, .goto_w 31]
noncomputable def am_B195_31 : List Instr := [.ret 1]
noncomputable def am_t195 : List (Nat × List Instr) := [(0, am_B195_0), (30, am_B195_30), (31, am_B195_31)]
noncomputable def am_B196_0 : List Instr := [.aload 0, .getfield 1, .ldc 8, .if_icmp .ne 20, .aload 0, .getfield 0, .iload 1, .iload 2, .i2b, .iastore, .goto 47]
noncomputable def am_B196_20 : List Instr := [.aload 0, .getfield 1, .ldc 16, .if_icmp .ne 40, .aload 0, .getfield 0, .iload 1, .iload 2, .i2s, .iastore, .goto 47]
noncomputable def am_B196_40 : List Instr := [.aload 0, .getfield 0, .iload 1, .iload 2, .iastore, .goto_w 47]
noncomputable def am_B196_47 : List Instr := [.return_]
noncomputable def am_t196 : List (Nat × List Instr) := [(0, am_B196_0), (20, am_B196_20), (40, am_B196_40), (47, am_B196_47)]
noncomputable def am_B197_0 : List Instr := [.iload 1, .invokeinterface 137 1, .ifCond .ne 14, .aload 0, .sipush (-1000001), .invokeinterface 21 2, .ret 0]
noncomputable def am_B197_14 : List Instr := [.aload 0, .getfield 179, .iload 1, .iaload, .ifCond .ne 30, .aload 0, .sipush (-1000006), .invokeinterface 21 2, .ret 0]
noncomputable def am_B197_30 : List Instr := [.iload 2, .ldc 0, .aload 0, .getfield 180, .iload 1, .iaload, .ldc 1, .isub, .invokeinterface 18 3, .ifCond .ne 53, .aload 0, .sipush (-1000001), .invokeinterface 21 2, .ret 0]
noncomputable def am_B197_53 : List Instr := [.aload 0, .getfield 181, .ldc 40, .iload 1, .imul, .iload 2, .iadd, .iload 3, .aload 0, .getfield 179, .iload 1, .iaload, .invokeinterface 198 2, .iastore, .ldc 1, .ret 0]
noncomputable def am_t197 : List (Nat × List Instr) := [(0, am_B197_0), (14, am_B197_14), (30, am_B197_30), (53, am_B197_53)]
noncomputable def am_B198_0 : List Instr := [.iload 1, .ldc 8, .if_icmp .ne 11, .iload 0, .i2b, .goto 23]
noncomputable def am_B198_11 : List Instr := [.iload 1, .ldc 16, .if_icmp .ne 22, .iload 0, .i2s, .goto 23]
noncomputable def am_B198_22 : List Instr := [.iload 0, .goto_w 23]
noncomputable def am_B198_23 : List Instr := [.ret 0]
noncomputable def am_t198 : List (Nat × List Instr) := [(0, am_B198_0), (11, am_B198_11), (22, am_B198_22), (23, am_B198_23)]
noncomputable def am_B199_0 : List Instr := [.iload 1, .invokeinterface 132 1, .ifCond .eq 14, .iload 3, .invokeinterface 132 1, .ifCond .ne 21, .goto_w 14]
noncomputable def am_B199_14 : List Instr := [.aload 0, .sipush (-1000001), .invokeinterface 15 2, .ret 0]
noncomputable def am_B199_21 : List Instr := [.aload 0, .getfield 132, .iload 1, .aaload, .astore 6, .aload 0, .getfield 132, .iload 3, .aaload, .astore 7, .aload 6, .invokeinterface 133 1, .ifCond .ne 53, .aload 7, .invokeinterface 133 1, .ifCond .eq 60, .goto_w 53]
noncomputable def am_B199_53 : List Instr := [.aload 0, .sipush (-1000006), .invokeinterface 15 2, .ret 0]
noncomputable def am_B199_60 : List Instr := [.aload 6, .getfield 1, .aload 7, .getfield 1, .if_icmp .eq 80, .aload 0, .sipush (-1000003), .invokeinterface 15 2, .ret 0]
noncomputable def am_B199_80 : List Instr := [.aload 6, .iload 2, .iload 5, .invokeinterface 195 3, .ifCond .eq 103, .aload 7, .iload 4, .iload 5, .invokeinterface 195 3, .ifCond .ne 110, .goto_w 103]
noncomputable def am_B199_103 : List Instr := [.aload 0, .sipush (-1000001), .invokeinterface 15 2, .ret 0]
noncomputable def am_B199_110 : List Instr := [.aload 6, .getfield 0, .iload 2, .aload 7, .getfield 0, .iload 4, .iload 5, .invokeinterface 999 5, .iload 5, .ret 0]
noncomputable def am_t199 : List (Nat × List Instr) := [(0, am_B199_0), (14, am_B199_14), (21, am_B199_21), (53, am_B199_53), (60, am_B199_60), (80, am_B199_80), (103, am_B199_103), (110, am_B199_110)]
noncomputable def am_B200_0 : List Instr := [.iload 1, .invokeinterface 137 1, .ifCond .eq 14, .iload 3, .invokeinterface 137 1, .ifCond .ne 21, .goto_w 14]
noncomputable def am_B200_14 : List Instr := [.aload 0, .sipush (-1000001), .invokeinterface 21 2, .ret 0]
noncomputable def am_B200_21 : List Instr := [.aload 0, .getfield 179, .iload 1, .iaload, .ifCond .eq 39, .aload 0, .getfield 179, .iload 3, .iaload, .ifCond .ne 46, .goto_w 39]
noncomputable def am_B200_39 : List Instr := [.aload 0, .sipush (-1000006), .invokeinterface 21 2, .ret 0]
noncomputable def am_B200_46 : List Instr := [.aload 0, .getfield 179, .iload 1, .iaload, .aload 0, .getfield 179, .iload 3, .iaload, .if_icmp .eq 69, .aload 0, .sipush (-1000003), .invokeinterface 21 2, .ret 0]
noncomputable def am_B200_69 : List Instr := [.iload 2, .ifCond .lt 118, .iload 4, .ifCond .lt 118, .iload 5, .ifCond .lt 118, .iload 2, .i2l, .iload 5, .i2l, .ladd, .aload 0, .getfield 180, .iload 1, .iaload, .i2l, .lcmp, .ifCond .gt 118, .iload 4, .i2l, .iload 5, .i2l, .ladd, .aload 0, .getfield 180, .iload 3, .iaload, .i2l, .lcmp, .ifCond .le 125, .goto_w 118]
noncomputable def am_B200_118 : List Instr := [.aload 0, .sipush (-1000001), .invokeinterface 21 2, .ret 0]
noncomputable def am_B200_125 : List Instr := [.ldc 0, .istore 6, .goto_w 128]
noncomputable def am_B200_128 : List Instr := [.iload 6, .iload 5, .if_icmp .ge 162, .aload 0, .getfield 182, .iload 6, .aload 0, .getfield 181, .ldc 40, .iload 1, .imul, .iload 2, .iadd, .iload 6, .iadd, .iaload, .iastore, .iinc 6 1, .goto 128]
noncomputable def am_B200_162 : List Instr := [.ldc 0, .istore 6, .goto_w 165]
noncomputable def am_B200_165 : List Instr := [.iload 6, .iload 5, .if_icmp .ge 200, .aload 0, .getfield 181, .ldc 40, .iload 3, .imul, .iload 4, .iadd, .iload 6, .iadd, .aload 0, .getfield 182, .iload 6, .iaload, .iastore, .iinc 6 1, .goto 165]
noncomputable def am_B200_200 : List Instr := [.iload 5, .ret 0]
noncomputable def am_t200 : List (Nat × List Instr) := [(0, am_B200_0), (14, am_B200_14), (21, am_B200_21), (39, am_B200_39), (46, am_B200_46), (69, am_B200_69), (118, am_B200_118), (125, am_B200_125), (128, am_B200_128), (162, am_B200_162), (165, am_B200_165), (200, am_B200_200)]
noncomputable def am_B201_0 : List Instr := [.iload 1, .invokeinterface 132 1, .ifCond .ne 14, .aload 0, .sipush (-1000001), .invokeinterface 15 2, .ret 0]
noncomputable def am_B201_14 : List Instr := [.aload 0, .getfield 132, .iload 1, .aaload, .astore 2, .aload 2, .invokeinterface 133 1, .ifCond .eq 35, .aload 0, .sipush (-1000006), .invokeinterface 15 2, .ret 0]
noncomputable def am_B201_35 : List Instr := [.ldc 0, .istore 3, .goto_w 37]
noncomputable def am_B201_37 : List Instr := [.iload 3, .aload 2, .getfield 2, .if_icmp .ge 89, .iload 3, .invokeinterface 13 1, .ifCond .eq 89, .aload 2, .getfield 0, .iload 3, .iaload, .ldc 0, .ldc 9999, .invokeinterface 14 3, .ifCond .eq 89, .aload 0, .getfield 128, .getfield 96, .iload 3, .aload 2, .getfield 0, .iload 3, .iaload, .iastore, .iinc 3 1, .goto 37]
noncomputable def am_B201_89 : List Instr := [.iload 3, .ret 0]
noncomputable def am_t201 : List (Nat × List Instr) := [(0, am_B201_0), (14, am_B201_14), (35, am_B201_35), (37, am_B201_37), (89, am_B201_89)]
noncomputable def am_B202_0 : List Instr := [.aload 0, .iload 1, .invokeinterface 136 2, .ifCond .eq 18, .aload 0, .aload 0, .iload 1, .invokeinterface 136 2, .invokeinterface 21 2, .ret 0]
noncomputable def am_B202_18 : List Instr := [.ldc 0, .istore 2, .goto_w 20]
noncomputable def am_B202_20 : List Instr := [.iload 2, .aload 0, .getfield 180, .iload 1, .iaload, .if_icmp .ge 80, .iload 2, .invokeinterface 17 1, .ifCond .eq 80, .aload 0, .getfield 181, .ldc 40, .iload 1, .imul, .iload 2, .iadd, .iaload, .invokeinterface 19 1, .ifCond .eq 80, .aload 0, .getfield 160, .ldc 13, .iload 2, .iadd, .aload 0, .getfield 181, .ldc 40, .iload 1, .imul, .iload 2, .iadd, .iaload, .iastore, .iinc 2 1, .goto 20]
noncomputable def am_B202_80 : List Instr := [.iload 2, .ret 0]
noncomputable def am_t202 : List (Nat × List Instr) := [(0, am_B202_0), (18, am_B202_18), (20, am_B202_20), (80, am_B202_80)]
noncomputable def am_B203_0 : List Instr := [.iload 1, .invokeinterface 132 1, .ifCond .ne 14, .aload 0, .sipush (-1000001), .invokeinterface 15 2, .ret 0]
noncomputable def am_B203_14 : List Instr := [.aload 0, .getfield 132, .iload 1, .aaload, .astore 2, .aload 2, .invokeinterface 133 1, .ifCond .eq 35, .aload 0, .sipush (-1000006), .invokeinterface 15 2, .ret 0]
noncomputable def am_B203_35 : List Instr := [.aload 0, .getfield 128, .invokeinterface 23 1, .ldc 0, .istore 3, .goto_w 44]
noncomputable def am_B203_44 : List Instr := [.iload 3, .aload 2, .getfield 2, .if_icmp .ge 88, .aload 0, .iload 3, .invokeinterface 47 2, .ifCond .eq 78, .aload 0, .getfield 128, .getfield 107, .iload 3, .iaload, .aload 2, .getfield 0, .iload 3, .iaload, .if_icmp .eq 82, .goto_w 78]
noncomputable def am_B203_78 : List Instr := [.ldc 1, .iload 3, .iadd, .ret 0]
noncomputable def am_B203_82 : List Instr := [.iinc 3 1, .goto 44]
noncomputable def am_B203_88 : List Instr := [.ldc 0, .ret 0]
noncomputable def am_t203 : List (Nat × List Instr) := [(0, am_B203_0), (14, am_B203_14), (35, am_B203_35), (44, am_B203_44), (78, am_B203_78), (82, am_B203_82), (88, am_B203_88)]
noncomputable def am_B204_0 : List Instr := [.aload 0, .iload 1, .invokeinterface 136 2, .ifCond .eq 18, .aload 0, .aload 0, .iload 1, .invokeinterface 136 2, .invokeinterface 21 2, .ret 0]
noncomputable def am_B204_18 : List Instr := [.aload 0, .invokeinterface 29 1, .ldc 0, .istore 2, .goto_w 24]
noncomputable def am_B204_24 : List Instr := [.iload 2, .aload 0, .getfield 180, .iload 1, .iaload, .if_icmp .ge 68, .aload 0, .iload 2, .invokeinterface 53 2, .ifCond .eq 68, .aload 0, .getfield 181, .ldc 40, .iload 1, .imul, .iload 2, .iadd, .iaload, .aload 0, .getfield 165, .iload 2, .iaload, .if_icmp .ne 68, .iinc 2 1, .goto 24]
noncomputable def am_B204_68 : List Instr := [.iload 2, .aload 0, .getfield 180, .iload 1, .iaload, .if_icmp .ne 82, .ldc 0, .goto 85]
noncomputable def am_B204_82 : List Instr := [.ldc 1, .iload 2, .iadd, .goto_w 85]
noncomputable def am_B204_85 : List Instr := [.ret 0]
noncomputable def am_t204 : List (Nat × List Instr) := [(0, am_B204_0), (18, am_B204_18), (24, am_B204_24), (68, am_B204_68), (82, am_B204_82), (85, am_B204_85)]
noncomputable def am_B205_0 : List Instr := [.aload 0, .getfield 129, .aload 0, .getfield 128, .invokeinterface 84 2, .aload 0, .ldc 1, .putfield 134, .ldc 1, .ret 0]
noncomputable def am_t205 : List (Nat × List Instr) := [(0, am_B205_0)]
noncomputable def am_B206_0 : List Instr := [.aload 0, .getfield 160, .aload 0, .getfield 161, .invokeinterface 88 2, .aload 0, .ldc 1, .putfield 163, .ldc 1, .ret 0]
noncomputable def am_t206 : List (Nat × List Instr) := [(0, am_B206_0)]
noncomputable def am_B207_0 : List Instr := [.aload 0, .getfield 134, .ifCond .ne 14, .aload 0, .sipush (-1000004), .invokeinterface 15 2, .ret 0]
noncomputable def am_B207_14 : List Instr := [.aload 0, .getfield 128, .aload 0, .getfield 129, .invokeinterface 84 2, .aload 0, .getfield 128, .getfield 104, .ret 0]
noncomputable def am_t207 : List (Nat × List Instr) := [(0, am_B207_0), (14, am_B207_14)]
noncomputable def am_B208_0 : List Instr := [.aload 0, .getfield 163, .ifCond .ne 14, .aload 0, .sipush (-1000004), .invokeinterface 21 2, .ret 0]
noncomputable def am_B208_14 : List Instr := [.aload 0, .getfield 161, .aload 0, .getfield 160, .invokeinterface 88 2, .aload 0, .getfield 160, .ldc 0, .iaload, .ret 0]
noncomputable def am_t208 : List (Nat × List Instr) := [(0, am_B208_0), (14, am_B208_14)]
noncomputable def am_B209_0 : List Instr := [.aload 0, .getfield 134, .ifCond .eq 11, .ldc 1, .goto 12]
noncomputable def am_B209_11 : List Instr := [.ldc 0, .goto_w 12]
noncomputable def am_B209_12 : List Instr := [.istore 1, .aload 0, .ldc 0, .putfield 134, .iload 1, .ret 0]
noncomputable def am_t209 : List (Nat × List Instr) := [(0, am_B209_0), (11, am_B209_11), (12, am_B209_12)]
noncomputable def am_B210_0 : List Instr := [.aload 0, .getfield 163, .ifCond .eq 11, .ldc 1, .goto 12]
noncomputable def am_B210_11 : List Instr := [.ldc 0, .goto_w 12]
noncomputable def am_B210_12 : List Instr := [.istore 1, .aload 0, .ldc 0, .putfield 163, .iload 1, .ret 0]
noncomputable def am_t210 : List (Nat × List Instr) := [(0, am_B210_0), (11, am_B210_11), (12, am_B210_12)]
noncomputable def am_B211_0 : List Instr := [.aload 0, .getfield 128, .invokeinterface 23 1, .iload 1, .tableswitch 129 0 7 #[56, 64, 72, 83, 94, 102, 113, 121]]
noncomputable def am_B211_56 : List Instr := [.aload 0, .getfield 128, .getfield 104, .ret 0]
noncomputable def am_B211_64 : List Instr := [.aload 0, .getfield 128, .getfield 103, .ret 0]
noncomputable def am_B211_72 : List Instr := [.aload 0, .getfield 128, .invokeinterface 74 1, .invokeinterface 4 1, .ret 0]
noncomputable def am_B211_83 : List Instr := [.aload 0, .getfield 128, .invokeinterface 75 1, .invokeinterface 4 1, .ret 0]
noncomputable def am_B211_94 : List Instr := [.aload 0, .getfield 128, .invokeinterface 68 1, .ret 0]
noncomputable def am_B211_102 : List Instr := [.aload 0, .getfield 131, .getfield 64, .getfield 33, .ret 0]
noncomputable def am_B211_113 : List Instr := [.aload 0, .getfield 128, .getfield 105, .ret 0]
noncomputable def am_B211_121 : List Instr := [.aload 0, .getfield 128, .invokeinterface 212 1, .ret 0]
noncomputable def am_B211_129 : List Instr := [.aload 0, .sipush (-1000001), .invokeinterface 15 2, .ret 0]
noncomputable def am_t211 : List (Nat × List Instr) := [(0, am_B211_0), (56, am_B211_56), (64, am_B211_64), (72, am_B211_72), (83, am_B211_83), (94, am_B211_94), (102, am_B211_102), (113, am_B211_113), (121, am_B211_121), (129, am_B211_129)]
noncomputable def am_B212_0 : List Instr := [.ldc 0, .istore 1, .ldc 0, .istore 2, .goto_w 4]
noncomputable def am_B212_4 : List Instr := [.iload 2, .ldc 10, .if_icmp .ge 34, .iload 1, .aload 0, .getfield 102, .iload 2, .iaload, .sipush (-1), .if_icmp .eq 25, .ldc 1, .goto 26]
noncomputable def am_B212_25 : List Instr := [.ldc 0, .goto_w 26]
noncomputable def am_B212_26 : List Instr := [.iadd, .istore 1, .iinc 2 1, .goto 4]
noncomputable def am_B212_34 : List Instr := [.iload 1, .ret 0]
noncomputable def am_t212 : List (Nat × List Instr) := [(0, am_B212_0), (4, am_B212_4), (25, am_B212_25), (26, am_B212_26), (34, am_B212_34)]
noncomputable def am_B213_0 : List Instr := [.ldc 0, .istore 2, .iload 1, .tableswitch 130 0 7 #[48, 55, 62, 70, 78, 83, 88, 95]]
noncomputable def am_B213_48 : List Instr := [.aload 0, .getfield 160, .ldc 0, .iaload, .ret 0]
noncomputable def am_B213_55 : List Instr := [.aload 0, .getfield 160, .ldc 1, .iaload, .ret 0]
noncomputable def am_B213_62 : List Instr := [.aload 0, .invokeinterface 79 1, .invokeinterface 36 1, .ret 0]
noncomputable def am_B213_70 : List Instr := [.aload 0, .invokeinterface 80 1, .invokeinterface 36 1, .ret 0]
noncomputable def am_B213_78 : List Instr := [.aload 0, .invokeinterface 72 1, .ret 0]
noncomputable def am_B213_83 : List Instr := [.aload 0, .getfield 169, .ret 0]
noncomputable def am_B213_88 : List Instr := [.aload 0, .getfield 160, .ldc 2, .iaload, .ret 0]
noncomputable def am_B213_95 : List Instr := [.ldc 0, .istore 3, .goto_w 97]
noncomputable def am_B213_97 : List Instr := [.iload 3, .ldc 10, .if_icmp .ge 128, .iload 2, .aload 0, .getfield 160, .ldc 3, .iload 3, .iadd, .iaload, .ifCond .ge 119, .ldc 0, .goto 120]
noncomputable def am_B213_119 : List Instr := [.ldc 1, .goto_w 120]
noncomputable def am_B213_120 : List Instr := [.iadd, .istore 2, .iinc 3 1, .goto 97]
noncomputable def am_B213_128 : List Instr := [.iload 2, .ret 0]
noncomputable def am_B213_130 : List Instr := [.aload 0, .sipush (-1000001), .invokeinterface 21 2, .ret 0]
noncomputable def am_t213 : List (Nat × List Instr) := [(0, am_B213_0), (48, am_B213_48), (55, am_B213_55), (62, am_B213_62), (70, am_B213_70), (78, am_B213_78), (83, am_B213_83), (88, am_B213_88), (95, am_B213_95), (97, am_B213_97), (119, am_B213_119), (120, am_B213_120), (128, am_B213_128), (130, am_B213_130)]
noncomputable def am_B214_0 : List Instr := [.iload 1, .sipush (-1), .ldc 6, .invokeinterface 14 3, .ifCond .ne 17, .aload 0, .sipush (-1000001), .invokeinterface 15 2, .ret 0]
noncomputable def am_B214_17 : List Instr := [.iload 1, .ifCond .lt 28, .aload 0, .getfield 133, .iload 1, .iaload, .ret 0]
noncomputable def am_B214_28 : List Instr := [.ldc 0, .istore 2, .ldc 0, .istore 3, .goto_w 32]
noncomputable def am_B214_32 : List Instr := [.iload 3, .ldc 7, .if_icmp .ge 53, .iload 2, .aload 0, .getfield 133, .iload 3, .iaload, .iadd, .istore 2, .iinc 3 1, .goto 32]
noncomputable def am_B214_53 : List Instr := [.iload 2, .ret 0]
noncomputable def am_t214 : List (Nat × List Instr) := [(0, am_B214_0), (17, am_B214_17), (28, am_B214_28), (32, am_B214_32), (53, am_B214_53)]
noncomputable def am_B215_0 : List Instr := [.iload 1, .sipush (-1), .ldc 6, .invokeinterface 18 3, .ifCond .eq 21, .aload 0, .getfield 164, .iload 1, .ldc 1, .iadd, .iaload, .goto 27]
noncomputable def am_B215_21 : List Instr := [.aload 0, .sipush (-1000001), .invokeinterface 21 2, .goto_w 27]
noncomputable def am_B215_27 : List Instr := [.ret 0]
noncomputable def am_t215 : List (Nat × List Instr) := [(0, am_B215_0), (21, am_B215_21), (27, am_B215_27)]
noncomputable def am_B216_18 : List Instr := [.iload 3, .aload 0, .arraylength, .ldc 6, .isub, .if_icmp .gt 1466, .aload 0, .iload 3, .iaload, .ldc 63, .iand, .tableswitch 1460 0 42 #[220, 253, 286, 319, 352, 395, 428, 461, 484, 507, 540, 573, 586, 599, 632, 675, 708, 741, 774, 807, 840, 873, 886, 909, 942, 975, 998, 1032, 1055, 1088, 1101, 1114, 1147, 1180, 1223, 1266, 1329, 1352, 1375, 1388, 1401, 1414, 1437]]
noncomputable def am_B216_220 : List Instr := [.aload 1, .aload 0, .iload 3, .ldc 1, .iadd, .iaload, .aload 0, .iload 3, .ldc 2, .iadd, .iaload, .invokeinterface 12 3, .aload 2, .aload 0, .iload 3, .ldc 1, .iadd, .iaload, .aload 0, .iload 3, .ldc 2, .iadd, .iaload, .invokeinterface 16 3, .if_icmp .eq 1460, .ldc 0, .ret 1]
noncomputable def am_B216_253 : List Instr := [.aload 1, .aload 0, .iload 3, .ldc 1, .iadd, .iaload, .aload 0, .iload 3, .ldc 2, .iadd, .iaload, .invokeinterface 22 3, .aload 2, .aload 0, .iload 3, .ldc 1, .iadd, .iaload, .aload 0, .iload 3, .ldc 2, .iadd, .iaload, .invokeinterface 28 3, .if_icmp .eq 1460, .ldc 0, .ret 1]
noncomputable def am_B216_286 : List Instr := [.aload 1, .aload 0, .iload 3, .ldc 1, .iadd, .iaload, .aload 0, .iload 3, .ldc 2, .iadd, .iaload, .invokeinterface 40 3, .aload 2, .aload 0, .iload 3, .ldc 1, .iadd, .iaload, .aload 0, .iload 3, .ldc 2, .iadd, .iaload, .invokeinterface 43 3, .if_icmp .eq 1460, .ldc 0, .ret 1]
noncomputable def am_B216_319 : List Instr := [.aload 1, .aload 0, .iload 3, .ldc 1, .iadd, .iaload, .aload 0, .iload 3, .ldc 2, .iadd, .iaload, .invokeinterface 46 3, .aload 2, .aload 0, .iload 3, .ldc 1, .iadd, .iaload, .aload 0, .iload 3, .ldc 2, .iadd, .iaload, .invokeinterface 52 3, .if_icmp .eq 1460, .ldc 0, .ret 1]
noncomputable def am_B216_352 : List Instr := [.aload 1, .aload 0, .iload 3, .ldc 1, .iadd, .iaload, .aload 0, .iload 3, .ldc 2, .iadd, .iaload, .aload 0, .iload 3, .ldc 3, .iadd, .iaload, .invokeinterface 55 4, .aload 2, .aload 0, .iload 3, .ldc 1, .iadd, .iaload, .aload 0, .iload 3, .ldc 2, .iadd, .iaload, .aload 0, .iload 3, .ldc 3, .iadd, .iaload, .invokeinterface 58 4, .if_icmp .eq 1460, .ldc 0, .ret 1]
noncomputable def am_B216_395 : List Instr := [.aload 1, .aload 0, .iload 3, .ldc 1, .iadd, .iaload, .aload 0, .iload 3, .ldc 2, .iadd, .iaload, .invokeinterface 60 3, .aload 2, .aload 0, .iload 3, .ldc 1, .iadd, .iaload, .aload 0, .iload 3, .ldc 2, .iadd, .iaload, .invokeinterface 63 3, .if_icmp .eq 1460, .ldc 0, .ret 1]
noncomputable def am_B216_428 : List Instr := [.aload 1, .aload 0, .iload 3, .ldc 1, .iadd, .iaload, .aload 0, .iload 3, .ldc 2, .iadd, .iaload, .invokeinterface 64 3, .aload 2, .aload 0, .iload 3, .ldc 1, .iadd, .iaload, .aload 0, .iload 3, .ldc 2, .iadd, .iaload, .invokeinterface 65 3, .if_icmp .eq 1460, .ldc 0, .ret 1]
noncomputable def am_B216_461 : List Instr := [.aload 1, .aload 0, .iload 3, .ldc 1, .iadd, .iaload, .invokeinterface 66 2, .aload 2, .aload 0, .iload 3, .ldc 1, .iadd, .iaload, .invokeinterface 69 2, .if_icmp .eq 1460, .ldc 0, .ret 1]
noncomputable def am_B216_484 : List Instr := [.aload 1, .aload 0, .iload 3, .ldc 1, .iadd, .iaload, .invokeinterface 73 2, .aload 2, .aload 0, .iload 3, .ldc 1, .iadd, .iaload, .invokeinterface 78 2, .if_icmp .eq 1460, .ldc 0, .ret 1]
noncomputable def am_B216_507 : List Instr := [.aload 1, .aload 0, .iload 3, .ldc 1, .iadd, .iaload, .aload 0, .iload 3, .ldc 2, .iadd, .iaload, .invokeinterface 83 3, .aload 2, .aload 0, .iload 3, .ldc 1, .iadd, .iaload, .aload 0, .iload 3, .ldc 2, .iadd, .iaload, .invokeinterface 85 3, .if_icmp .eq 1460, .ldc 0, .ret 1]
noncomputable def am_B216_540 : List Instr := [.aload 1, .aload 0, .iload 3, .ldc 1, .iadd, .iaload, .aload 0, .iload 3, .ldc 2, .iadd, .iaload, .invokeinterface 90 3, .aload 2, .aload 0, .iload 3, .ldc 1, .iadd, .iaload, .aload 0, .iload 3, .ldc 2, .iadd, .iaload, .invokeinterface 91 3, .if_icmp .eq 1460, .ldc 0, .ret 1]
noncomputable def am_B216_573 : List Instr := [.aload 1, .invokeinterface 92 1, .aload 2, .invokeinterface 93 1, .if_icmp .eq 1460, .ldc 0, .ret 1]
noncomputable def am_B216_586 : List Instr := [.aload 1, .invokeinterface 95 1, .aload 2, .invokeinterface 97 1, .if_icmp .eq 1460, .ldc 0, .ret 1]
noncomputable def am_B216_599 : List Instr := [.aload 1, .aload 0, .iload 3, .ldc 1, .iadd, .iaload, .aload 0, .iload 3, .ldc 2, .iadd, .iaload, .invokeinterface 99 3, .aload 2, .aload 0, .iload 3, .ldc 1, .iadd, .iaload, .aload 0, .iload 3, .ldc 2, .iadd, .iaload, .invokeinterface 100 3, .if_icmp .eq 1460, .ldc 0, .ret 1]
noncomputable def am_B216_632 : List Instr := [.aload 1, .aload 0, .iload 3, .ldc 1, .iadd, .iaload, .aload 0, .iload 3, .ldc 2, .iadd, .iaload, .aload 0, .iload 3, .ldc 3, .iadd, .iaload, .invokeinterface 102 4, .aload 2, .aload 0, .iload 3, .ldc 1, .iadd, .iaload, .aload 0, .iload 3, .ldc 2, .iadd, .iaload, .aload 0, .iload 3, .ldc 3, .iadd, .iaload, .invokeinterface 103 4, .if_icmp .eq 1460, .ldc 0, .ret 1]
noncomputable def am_B216_675 : List Instr := [.aload 1, .aload 0, .iload 3, .ldc 1, .iadd, .iaload, .aload 0, .iload 3, .ldc 2, .iadd, .iaload, .invokeinterface 104 3, .aload 2, .aload 0, .iload 3, .ldc 1, .iadd, .iaload, .aload 0, .iload 3, .ldc 2, .iadd, .iaload, .invokeinterface 106 3, .if_icmp .eq 1460, .ldc 0, .ret 1]
noncomputable def am_B216_708 : List Instr := [.aload 1, .aload 0, .iload 3, .ldc 1, .iadd, .iaload, .aload 0, .iload 3, .ldc 2, .iadd, .iaload, .invokeinterface 109 3, .aload 2, .aload 0, .iload 3, .ldc 1, .iadd, .iaload, .aload 0, .iload 3, .ldc 2, .iadd, .iaload, .invokeinterface 110 3, .if_icmp .eq 1460, .ldc 0, .ret 1]
noncomputable def am_B216_741 : List Instr := [.aload 1, .aload 0, .iload 3, .ldc 1, .iadd, .iaload, .aload 0, .iload 3, .ldc 2, .iadd, .iaload, .invokeinterface 111 3, .aload 2, .aload 0, .iload 3, .ldc 1, .iadd, .iaload, .aload 0, .iload 3, .ldc 2, .iadd, .iaload, .invokeinterface 112 3, .if_icmp .eq 1460, .ldc 0, .ret 1]
noncomputable def am_B216_774 : List Instr := [.aload 1, .aload 0, .iload 3, .ldc 1, .iadd, .iaload, .aload 0, .iload 3, .ldc 2, .iadd, .iaload, .invokeinterface 113 3, .aload 2, .aload 0, .iload 3, .ldc 1, .iadd, .iaload, .aload 0, .iload 3, .ldc 2, .iadd, .iaload, .invokeinterface 114 3, .if_icmp .eq 1460, .ldc 0, .ret 1]
noncomputable def am_B216_807 : List Instr := [.aload 1, .aload 0, .iload 3, .ldc 1, .iadd, .iaload, .aload 0, .iload 3, .ldc 2, .iadd, .iaload, .invokeinterface 115 3, .aload 2, .aload 0, .iload 3, .ldc 1, .iadd, .iaload, .aload 0, .iload 3, .ldc 2, .iadd, .iaload, .invokeinterface 116 3, .if_icmp .eq 1460, .ldc 0, .ret 1]
noncomputable def am_B216_840 : List Instr := [.aload 1, .aload 0, .iload 3, .ldc 1, .iadd, .iaload, .aload 0, .iload 3, .ldc 2, .iadd, .iaload, .invokeinterface 118 3, .aload 2, .aload 0, .iload 3, .ldc 1, .iadd, .iaload, .aload 0, .iload 3, .ldc 2, .iadd, .iaload, .invokeinterface 120 3, .if_icmp .eq 1460, .ldc 0, .ret 1]
noncomputable def am_B216_873 : List Instr := [.aload 1, .invokeinterface 123 1, .aload 2, .invokeinterface 124 1, .if_icmp .eq 1460, .ldc 0, .ret 1]
noncomputable def am_B216_886 : List Instr := [.aload 1, .aload 0, .iload 3, .ldc 1, .iadd, .iaload, .invokeinterface 126 2, .aload 2, .aload 0, .iload 3, .ldc 1, .iadd, .iaload, .invokeinterface 128 2, .if_icmp .eq 1460, .ldc 0, .ret 1]
noncomputable def am_B216_909 : List Instr := [.aload 1, .aload 0, .iload 3, .ldc 1, .iadd, .iaload, .aload 0, .iload 3, .ldc 2, .iadd, .iaload, .invokeinterface 130 3, .aload 2, .aload 0, .iload 3, .ldc 1, .iadd, .iaload, .aload 0, .iload 3, .ldc 2, .iadd, .iaload, .invokeinterface 135 3, .if_icmp .eq 1460, .ldc 0, .ret 1]
noncomputable def am_B216_942 : List Instr := [.aload 1, .aload 0, .iload 3, .ldc 1, .iadd, .iaload, .aload 0, .iload 3, .ldc 2, .iadd, .iaload, .invokeinterface 140 3, .aload 2, .aload 0, .iload 3, .ldc 1, .iadd, .iaload, .aload 0, .iload 3, .ldc 2, .iadd, .iaload, .invokeinterface 141 3, .if_icmp .eq 1460, .ldc 0, .ret 1]
noncomputable def am_B216_975 : List Instr := [.aload 1, .aload 0, .iload 3, .ldc 1, .iadd, .iaload, .invokeinterface 142 2, .aload 2, .aload 0, .iload 3, .ldc 1, .iadd, .iaload, .invokeinterface 144 2, .if_icmp .eq 1460, .ldc 0, .ret 1]
noncomputable def am_B216_998 : List Instr := [.aload 1, .aload 0, .iload 3, .ldc 1, .iadd, .iaload, .aload 0, .iload 3, .ldc 2, .iadd, .iaload, .invokeinterface 146 3, .aload 2, .aload 0, .iload 3, .ldc 1, .iadd, .iaload, .aload 0, .iload 3, .ldc 2, .iadd, .iaload, .invokeinterface 148 3, .lcmp, .ifCond .eq 1460, .ldc 0, .ret 1]
noncomputable def am_B216_1032 : List Instr := [.aload 1, .aload 0, .iload 3, .ldc 1, .iadd, .iaload, .invokeinterface 149 2, .aload 2, .aload 0, .iload 3, .ldc 1, .iadd, .iaload, .invokeinterface 150 2, .if_icmp .eq 1460, .ldc 0, .ret 1]
noncomputable def am_B216_1055 : List Instr := [.aload 1, .aload 0, .iload 3, .ldc 1, .iadd, .iaload, .aload 0, .iload 3, .ldc 2, .iadd, .iaload, .invokeinterface 151 3, .aload 2, .aload 0, .iload 3, .ldc 1, .iadd, .iaload, .aload 0, .iload 3, .ldc 2, .iadd, .iaload, .invokeinterface 153 3, .if_icmp .eq 1460, .ldc 0, .ret 1]
noncomputable def am_B216_1088 : List Instr := [.aload 1, .invokeinterface 154 1, .aload 2, .invokeinterface 155 1, .if_icmp .eq 1460, .ldc 0, .ret 1]
noncomputable def am_B216_1101 : List Instr := [.aload 1, .invokeinterface 156 1, .aload 2, .invokeinterface 171 1, .if_icmp .eq 1460, .ldc 0, .ret 1]
noncomputable def am_B216_1114 : List Instr := [.aload 1, .aload 0, .iload 3, .ldc 1, .iadd, .iaload, .aload 0, .iload 3, .ldc 2, .iadd, .iaload, .invokeinterface 182 3, .aload 2, .aload 0, .iload 3, .ldc 1, .iadd, .iaload, .aload 0, .iload 3, .ldc 2, .iadd, .iaload, .invokeinterface 184 3, .if_icmp .eq 1460, .ldc 0, .ret 1]
noncomputable def am_B216_1147 : List Instr := [.aload 1, .aload 0, .iload 3, .ldc 1, .iadd, .iaload, .aload 0, .iload 3, .ldc 2, .iadd, .iaload, .invokeinterface 186 3, .aload 2, .aload 0, .iload 3, .ldc 1, .iadd, .iaload, .aload 0, .iload 3, .ldc 2, .iadd, .iaload, .invokeinterface 188 3, .if_icmp .eq 1460, .ldc 0, .ret 1]
noncomputable def am_B216_1180 : List Instr := [.aload 1, .aload 0, .iload 3, .ldc 1, .iadd, .iaload, .aload 0, .iload 3, .ldc 2, .iadd, .iaload, .aload 0, .iload 3, .ldc 3, .iadd, .iaload, .invokeinterface 191 4, .aload 2, .aload 0, .iload 3, .ldc 1, .iadd, .iaload, .aload 0, .iload 3, .ldc 2, .iadd, .iaload, .aload 0, .iload 3, .ldc 3, .iadd, .iaload, .invokeinterface 193 4, .if_icmp .eq 1460, .ldc 0, .ret 1]
noncomputable def am_B216_1223 : List Instr := [.aload 1, .aload 0, .iload 3, .ldc 1, .iadd, .iaload, .aload 0, .iload 3, .ldc 2, .iadd, .iaload, .aload 0, .iload 3, .ldc 3, .iadd, .iaload, .invokeinterface 194 4, .aload 2, .aload 0, .iload 3, .ldc 1, .iadd, .iaload, .aload 0, .iload 3, .ldc 2, .iadd, .iaload, .aload 0, .iload 3, .ldc 3, .iadd, .iaload, .invokeinterface 197 4, .if_icmp .eq 1460, .ldc 0, .ret 1]
noncomputable def am_B216_1266 : List Instr := [.aload 1, .aload 0, .iload 3, .ldc 1, .iadd, .iaload, .aload 0, .iload 3, .ldc 2, .iadd, .iaload, .aload 0, .iload 3, .ldc 3, .iadd, .iaload, .aload 0, .iload 3, .ldc 4, .iadd, .iaload, .aload 0, .iload 3, .ldc 5, .iadd, .iaload, .invokeinterface 199 6, .aload 2, .aload 0, .iload 3, .ldc 1, .iadd, .iaload, .aload 0, .iload 3, .ldc 2, .iadd, .iaload, .aload 0, .iload 3, .ldc 3, .iadd, .iaload, .aload 0, .iload 3, .ldc 4, .iadd, .iaload, .aload 0, .iload 3, .ldc 5, .iadd, .iaload, .invokeinterface 200 6, .if_icmp .eq 1460, .ldc 0, .ret 1]
noncomputable def am_B216_1329 : List Instr := [.aload 1, .aload 0, .iload 3, .ldc 1, .iadd, .iaload, .invokeinterface 201 2, .aload 2, .aload 0, .iload 3, .ldc 1, .iadd, .iaload, .invokeinterface 202 2, .if_icmp .eq 1460, .ldc 0, .ret 1]
noncomputable def am_B216_1352 : List Instr := [.aload 1, .aload 0, .iload 3, .ldc 1, .iadd, .iaload, .invokeinterface 203 2, .aload 2, .aload 0, .iload 3, .ldc 1, .iadd, .iaload, .invokeinterface 204 2, .if_icmp .eq 1460, .ldc 0, .ret 1]
noncomputable def am_B216_1375 : List Instr := [.aload 1, .invokeinterface 205 1, .aload 2, .invokeinterface 206 1, .if_icmp .eq 1460, .ldc 0, .ret 1]
noncomputable def am_B216_1388 : List Instr := [.aload 1, .invokeinterface 207 1, .aload 2, .invokeinterface 208 1, .if_icmp .eq 1460, .ldc 0, .ret 1]
noncomputable def am_B216_1401 : List Instr := [.aload 1, .invokeinterface 209 1, .aload 2, .invokeinterface 210 1, .if_icmp .eq 1460, .ldc 0, .ret 1]
noncomputable def am_B216_1414 : List Instr := [.aload 1, .aload 0, .iload 3, .ldc 1, .iadd, .iaload, .invokeinterface 211 2, .aload 2, .aload 0, .iload 3, .ldc 1, .iadd, .iaload, .invokeinterface 213 2, .if_icmp .eq 1460, .ldc 0, .ret 1]
noncomputable def am_B216_1437 : List Instr := [.aload 1, .aload 0, .iload 3, .ldc 1, .iadd, .iaload, .invokeinterface 214 2, .aload 2, .aload 0, .iload 3, .ldc 1, .iadd, .iaload, .invokeinterface 215 2, .if_icmp .eq 1460, .ldc 0, .ret 1]
noncomputable def am_B216_1460 : List Instr := [.iinc 3 6, .goto 18]
noncomputable def am_B216_1466 : List Instr := [.ldc 1, .ret 1]
noncomputable def am_t216 : List (Nat × List Instr) := [(18, am_B216_18), (220, am_B216_220), (253, am_B216_253), (286, am_B216_286), (319, am_B216_319), (352, am_B216_352), (395, am_B216_395), (428, am_B216_428), (461, am_B216_461), (484, am_B216_484), (507, am_B216_507), (540, am_B216_540), (573, am_B216_573), (586, am_B216_586), (599, am_B216_599), (632, am_B216_632), (675, am_B216_675), (708, am_B216_708), (741, am_B216_741), (774, am_B216_774), (807, am_B216_807), (840, am_B216_840), (873, am_B216_873), (886, am_B216_886), (909, am_B216_909), (942, am_B216_942), (975, am_B216_975), (998, am_B216_998), (1032, am_B216_1032), (1055, am_B216_1055), (1088, am_B216_1088), (1101, am_B216_1101), (1114, am_B216_1114), (1147, am_B216_1147), (1180, am_B216_1180), (1223, am_B216_1223), (1266, am_B216_1266), (1329, am_B216_1329), (1352, am_B216_1352), (1375, am_B216_1375), (1388, am_B216_1388), (1401, am_B216_1401), (1414, am_B216_1414), (1437, am_B216_1437), (1460, am_B216_1460), (1466, am_B216_1466)]
noncomputable def am_tL : List (List (Nat × List Instr)) := [am_t0, am_t1, am_t2, am_t3, am_t4, am_t5, am_t6, am_t7, am_t8, am_t9, am_t10, am_t11, am_t12, am_t13, am_t14, am_t15, 
  am_t16, am_t17, am_t18, am_t19, am_t20, am_t21, am_t22, am_t23, am_t24, am_t25, am_t26, am_t27, am_t28, am_t29, am_t30, am_t31, am_t32, am_t33, am_t34, am_t35, am_t36, am_t37, 
  am_t38, am_t39, am_t40, am_t41, am_t42, am_t43, am_t44, am_t45, am_t46, am_t47, am_t48, am_t49, am_t50, am_t51, am_t52, am_t53, am_t54, am_t55, am_t56, am_t57, am_t58, am_t59, 
  am_t60, am_t61, am_t62, am_t63, am_t64, am_t65, am_t66, am_t67, am_t68, am_t69, am_t70, am_t71, am_t72, am_t73, am_t74, am_t75, am_t76, am_t77, am_t78, am_t79, am_t80, am_t81, 
  am_t82, am_t83, am_t84, am_t85, am_t86, am_t87, am_t88, am_t89, am_t90, am_t91, am_t92, am_t93, am_t94, am_t95, am_t96, am_t97, am_t98, am_t99, am_t100, am_t101, am_t102, 
  am_t103, am_t104, am_t105, am_t106, am_t107, am_t108, am_t109, am_t110, am_t111, am_t112, am_t113, am_t114, am_t115, am_t116, am_t117, am_t118, am_t119, am_t120, am_t121, 
  am_t122, am_t123, am_t124, am_t125, am_t126, am_t127, am_t128, am_t129, am_t130, am_t131, am_t132, am_t133, am_t134, am_t135, am_t136, am_t137, am_t138, am_t139, am_t140, 
  am_t141, am_t142, am_t143, am_t144, am_t145, am_t146, am_t147, am_t148, am_t149, am_t150, am_t151, am_t152, am_t153, am_t154, am_t155, am_t156, am_t157, am_t158, am_t159, 
  am_t160, am_t161, am_t162, am_t163, am_t164, am_t165, am_t166, am_t167, am_t168, am_t169, am_t170, am_t171, am_t172, am_t173, am_t174, am_t175, am_t176, am_t177, am_t178, 
  am_t179, am_t180, am_t181, am_t182, am_t183, am_t184, am_t185, am_t186, am_t187, am_t188, am_t189, am_t190, am_t191, am_t192, am_t193, am_t194, am_t195, am_t196, am_t197, 
  am_t198, am_t199, am_t200, am_t201, am_t202, am_t203, am_t204, am_t205, am_t206, am_t207, am_t208, am_t209, am_t210, am_t211, am_t212, am_t213, am_t214, am_t215, am_t216]
def am_mxL : List Nat := [4, 2, 2, 1, 1, 1, 1, 2, 1, 2, 2, 3, 4, 1, 3, 3, 3, 1, 3, 1, 4, 2, 3, 3, 8, 9, 4, 4, 3, 2, 5, 3, 2, 5, 3, 4, 3, 6, 3, 4, 4, 1, 4, 3, 1, 6, 3, 2, 3, 3, 2, 
  4, 3, 2, 4, 5, 4, 4, 4, 4, 3, 3, 3, 3, 3, 3, 2, 4, 3, 2, 3, 3, 3, 2, 3, 3, 3, 3, 2, 3, 3, 3, 3, 3, 2, 3, 1, 3, 3, 2, 3, 3, 2, 2, 2, 2, 3, 2, 3, 4, 4, 3, 7, 8, 3, 7, 3, 3, 11, 3, 
  3, 3, 3, 3, 3, 4, 6, 2, 6, 4, 6, 4, 2, 5, 5, 2, 7, 4, 7, 5, 3, 6, 1, 1, 7, 3, 2, 1, 8, 6, 3, 3, 5, 1, 4, 1, 6, 5, 9, 3, 2, 4, 2, 4, 2, 2, 2, 1, 1, 2, 1, 1, 3, 3, 2, 2, 2, 1, 2, 
  5, 1, 3, 2, 2, 4, 3, 4, 2, 4, 4, 6, 4, 3, 1, 3, 1, 4, 4, 4, 3, 1, 4, 3, 5, 4, 3, 3, 4, 2, 8, 7, 4, 3, 4, 3, 1, 1, 1, 1, 2, 2, 2, 3, 4, 4, 2, 4]
def am_naL : List Nat := [2, 2, 2, 1, 1, 1, 1, 2, 1, 2, 2, 3, 3, 1, 3, 2, 3, 1, 3, 1, 3, 2, 3, 1, 2, 3, 2, 2, 3, 1, 2, 3, 2, 3, 3, 2, 1, 4, 3, 2, 3, 1, 3, 3, 1, 5, 3, 2, 3, 2, 2, 
  2, 3, 2, 2, 4, 4, 4, 4, 4, 3, 3, 3, 3, 3, 3, 2, 2, 1, 2, 2, 1, 1, 2, 1, 1, 1, 1, 2, 1, 1, 1, 1, 3, 2, 3, 1, 3, 2, 2, 3, 3, 1, 1, 2, 1, 2, 1, 1, 3, 3, 3, 4, 4, 3, 4, 3, 3, 6, 3, 
  3, 3, 3, 3, 3, 3, 3, 2, 3, 3, 3, 3, 2, 1, 1, 2, 2, 4, 2, 4, 3, 4, 1, 1, 5, 3, 2, 1, 5, 3, 3, 3, 2, 1, 2, 1, 3, 2, 3, 2, 2, 3, 2, 3, 1, 1, 1, 1, 1, 1, 1, 1, 1, 2, 1, 2, 1, 1, 2, 
  5, 1, 1, 1, 2, 1, 1, 2, 2, 4, 3, 5, 2, 3, 1, 3, 1, 3, 2, 3, 2, 1, 4, 3, 4, 4, 3, 3, 4, 2, 6, 6, 2, 2, 2, 2, 1, 1, 1, 1, 1, 1, 2, 1, 2, 2, 2, 1]
def am_ownL : List Nat := [11, 12, 12, 12, 10, 6, 6, 6, 6, 7, 6, 9, 4, 4, 4, 4, 5, 5, 5, 5, 5, 5, 4, 3, 3, 3, 3, 3, 5, 5, 5, 5, 5, 5, 5, 5, 5, 5, 5, 5, 4, 4, 3, 5, 5, 5, 4, 4, 3, 
  3, 4, 3, 5, 5, 5, 4, 3, 3, 5, 5, 4, 3, 3, 5, 4, 5, 4, 3, 3, 5, 5, 5, 5, 4, 3, 3, 3, 3, 5, 5, 5, 5, 5, 4, 3, 5, 5, 5, 5, 5, 4, 5, 4, 5, 5, 4, 3, 5, 5, 4, 5, 5, 4, 5, 4, 4, 5, 5, 
  5, 4, 5, 4, 5, 4, 5, 4, 5, 5, 4, 4, 5, 5, 5, 4, 5, 5, 4, 4, 5, 5, 4, 4, 4, 0, 4, 5, 5, 5, 5, 5, 4, 5, 4, 3, 5, 5, 4, 4, 5, 4, 5, 4, 1, 5, 4, 5, 4, 2, 1, 1, 1, 1, 2, 1, 2, 2, 2, 
  2, 2, 2, 2, 5, 5, 5, 5, 5, 5, 5, 5, 5, 5, 5, 4, 4, 5, 5, 4, 4, 5, 5, 5, 4, 0, 5, 4, 0, 0, 5, 5, 4, 5, 4, 5, 4, 5, 4, 5, 4, 5, 4, 5, 4, 3, 5, 4, 5, 14]
def am_statL : List Bool := [true, true, true, true, true, false, false, false, false, true, true, true, false, true, true, false, false, true, true, true, false, false, false, 
  false, false, false, false, false, false, false, false, false, true, false, false, false, true, false, false, false, false, true, false, false, true, false, false, false, false, 
  false, true, false, false, false, false, false, false, false, false, false, false, false, false, false, false, false, false, false, false, false, false, false, false, false, 
  false, false, false, false, false, false, false, false, false, false, false, false, true, false, true, false, false, false, false, false, false, false, false, false, false, 
  false, false, false, false, false, false, false, false, false, false, false, false, false, false, false, false, false, false, false, false, false, false, false, true, false, 
  false, false, false, false, false, false, false, false, true, false, false, false, false, true, false, false, false, false, false, false, false, false, false, true, false, 
  false, false, false, false, false, false, false, false, false, false, false, false, false, false, false, false, false, false, true, false, false, false, false, false, false, 
  false, false, false, false, false, false, false, false, false, true, false, true, false, true, false, true, true, false, false, false, false, false, false, false, true, false, 
  false, false, false, false, false, false, false, false, false, false, false, false, false, false, false, false, true]
end
section
/-! ===== a small machine of my own: values are numbers and places of objects, a world of fixed shape; what it runs, the machine runs (part 34) ===== -/
abbrev GG : Type := Nat → Nat → Int32
abbrev LV : Type := List (Option Value)
abbrev AmX : Type := Nat × (Nat → Int32)
abbrev AmR : Type := Option ((List Instr × LV × List Value × GG) ⊕ ((Option Value × GG) ⊕ (Nat × List Value × LV × List Value)))
def gset (G : GG) (k : Nat) (f : Nat → Int32) : GG := fun j => if j = k then f else G j
def am_sh (k : Nat) : List Nat := am_shl.getD k []
noncomputable def am_blk (k b : Nat) : List Instr := ((am_tL.getD k []).lookup b).getD []
def am_mx (k : Nat) : Nat := am_mxL.getD k 0
def am_own (k : Nat) : Nat := am_ownL.getD k 99
def am_stat (k : Nat) : Bool := am_statL.getD k false
def am_ci (n : Int) : Int32 := Int32.ofInt n
def am_ent (m : Nat) (args : List Value) : LV := args.map some ++ List.replicate (am_mx m - args.length) none
def am_clsof (o : Nat) : Nat := match am_sh o with
  | 1 :: ci :: _ => ci
  | _ => if 100 ≤ o ∧ o < 111 then 6 else 99
/-- fields -/
def am_gf (G : GG) (k f : Nat) : Option Value :=
  if f = 1000 then (if 100 ≤ k ∧ k < 111 then some (.ref (k + 100)) else none)
  else if f = 1001 then (if 100 ≤ k ∧ k < 111 then some (.int (nI 0)) else none)
  else match am_sh k with
    | 1 :: ci :: fs => if ci = f / 32 then (match fs[f % 32]? with
      | some 0 => some (.int (G k (f % 32)))
      | some (j + 1) => some (.ref j)
      | none => none) else none
    | _ => none
def am_isz (f : Nat) : Bool := f == 134 || f == 163 || f == 174
def am_pf (G : GG) (k f : Nat) (x : Int32) : Option GG := match am_sh k with
  | 1 :: ci :: fs => if ci = f / 32 ∧ fs[f % 32]? = some 0 then (if am_isz f = true → x = nI 0 ∨ x = nI 1 then some (gset G k (upd (G k) (f % 32) x)) else none) else none
  | _ => none
/-- arrays -/
def am_ald (X : AmX) (G : GG) (k : Nat) (i : Int32) : Option Int32 := match am_sh k with
  | [0, n] => if i < 0 ∨ n ≤ i.toNatClampNeg then none else some (G k i.toNatClampNeg)
  | _ => if k = 300 then (if i < 0 ∨ 7 ≤ i.toNatClampNeg then none else some (tt_above i.toNatClampNeg))
    else if k = 400 then (if i < 0 ∨ X.1 ≤ i.toNatClampNeg then none else some (X.2 i.toNatClampNeg)) else none
def am_ast (G : GG) (k : Nat) (i x : Int32) : Option GG := match am_sh k with
  | [0, n] => if i < 0 ∨ n ≤ i.toNatClampNeg then none else some (gset G k (upd (G k) i.toNatClampNeg x))
  | _ => none
def am_bld (k : Nat) (i : Int32) : Option Int32 := if 200 ≤ k ∧ k < 211 then (if i < 0 ∨ tt_len.getD (k - 200) 0 ≤ i.toNatClampNeg then none else some ((tt_byt.getD (k - 200) []).getD i.toNatClampNeg 0)) else none
def am_qld (k : Nat) (i : Int32) : Option Nat := match am_sh k with
  | 2 :: _ :: rs => if i < 0 then none else rs[i.toNatClampNeg]?
  | _ => none
def am_len (X : AmX) (k : Nat) : Option Nat := match am_sh k with
  | [0, n] => some n
  | 2 :: _ :: rs => some rs.length
  | _ => if k = 400 then some X.1 else if 200 ≤ k ∧ k < 211 then some (tt_len.getD (k - 200) 0) else none
def am_cpy (G : GG) (o1 : Nat) (sp : Int32) (o2 : Nat) (dp n : Int32) : Option GG := match am_sh o1, am_sh o2 with
  | [0, n1], [0, n2] => if ¬ sp < 0 ∧ ¬ dp < 0 ∧ ¬ n < 0 ∧ sp.toNatClampNeg + n.toNatClampNeg ≤ n1 ∧ dp.toNatClampNeg + n.toNatClampNeg ≤ n2 then some (gset G o2 (va_cpy (G o1) (G o2) sp.toNatClampNeg dp.toNatClampNeg n.toNatClampNeg)) else none
  | _, _ => none
/-- comparisons, switches -/
def am_cmp (c : Jvm.ClassFile.Cond) (x y : Int32) : Prop := match c with
  | .eq => x = y
  | .ne => ¬ x = y
  | .lt => x < y
  | .ge => y ≤ x
  | .gt => y < x
  | .le => x ≤ y
def am_cmpB (c : Jvm.ClassFile.Cond) (x y : Int32) : Bool := match c with
  | .eq => decide (x = y)
  | .ne => decide (¬ x = y)
  | .lt => decide (x < y)
  | .ge => decide (y ≤ x)
  | .gt => decide (y < x)
  | .le => decide (x ≤ y)
def am_sw (d lo hi : Int) (offs : Array Int) (x : Int32) : Int := if x.toInt < lo ∨ hi < x.toInt then d else offs.toList.getD (x.toInt - lo).toNat d
/-- one instruction -/
def am_push (r : List Instr) (lv : LV) (st : List Value) (G : GG) (v : Value) : AmR := some (.inl (r, lv, v :: st, G))
def am_ok1 (lv : LV) : Nat → Bool
  | 0 => decide (0 < lv.length)
  | j + 1 => decide (j + 1 < lv.length) && (match lv[j]? with
    | some (some (.long _)) => false
    | _ => true)
def am_ok2 (lv : LV) (j : Nat) : Bool := decide (j + 1 < lv.length) && am_ok1 lv j
def am_bin (f : Int32 → Int32 → Int32) (r : List Instr) (lv : LV) (st : List Value) (G : GG) : AmR := match st with
  | .int y :: .int x :: s => am_push r lv s G (.int (f x y))
  | _ => none
def am_binZ (f : Int32 → Int32 → Int32) (r : List Instr) (lv : LV) (st : List Value) (G : GG) : AmR := match st with
  | .int y :: .int x :: s => if y = nI 0 then none else am_push r lv s G (.int (f x y))
  | _ => none
def am_binL (f : Int64 → Int64 → Int64) (r : List Instr) (lv : LV) (st : List Value) (G : GG) : AmR := match st with
  | .long y :: .long x :: s => am_push r lv s G (.long (f x y))
  | _ => none
def am_un (f : Int32 → Int32) (r : List Instr) (lv : LV) (st : List Value) (G : GG) : AmR := match st with
  | .int x :: s => am_push r lv s G (.int (f x))
  | _ => none
def am_c1 (v : Value) : Bool := match v with
  | .int _ => true
  | .ref _ => true
  | _ => false
def am_rcv (m : Nat) (args : List Value) : Bool := am_stat m || (match args with
  | .ref o :: _ => am_clsof o == am_own m
  | _ => false)
def am_opt {α : Type} (o : Option α) (f : α → AmR) : AmR := match o with
  | some x => f x
  | none => none
noncomputable def am_st (X : AmX) (k : Nat) (i : Instr) (r : List Instr) (lv : LV) (st : List Value) (G : GG) : AmR :=
  match i with
  | .ldc n => am_push r lv st G (.int (nI n))
  | .sipush n => am_push r lv st G (.int (am_ci n))
  | .ldc_w j => am_push r lv st G (.ref (100 + j))
  | .lconst n => am_push r lv st G (.long (Int64.ofNat n.val))
  | .iload j => (match lv[j]? with
    | some (some (.int x)) => am_push r lv st G (.int x)
    | _ => none)
  | .aload j => (match lv[j]? with
    | some (some (.ref x)) => if x < 500 then am_push r lv st G (.ref x) else none
    | _ => none)
  | .lload j => (match lv[j]? with
    | some (some (.long x)) => am_push r lv st G (.long x)
    | _ => none)
  | .istore j => (match st with
    | .int x :: s => if am_ok1 lv j = true then some (.inl (r, lv.set j (some (.int x)), s, G)) else none
    | _ => none)
  | .astore j => (match st with
    | .ref x :: s => if am_ok1 lv j = true ∧ x < 500 then some (.inl (r, lv.set j (some (.ref x)), s, G)) else none
    | _ => none)
  | .lstore j => (match st with
    | .long x :: s => if am_ok2 lv j = true then some (.inl (r, (lv.set j (some (.long x))).set (j + 1) none, s, G)) else none
    | _ => none)
  | .iinc j n => (match lv[j]? with
    | some (some (.int x)) => if am_ok1 lv j = true then some (.inl (r, lv.set j (some (.int (x + am_ci n))), st, G)) else none
    | _ => none)
  | .iadd => am_bin (fun x y => x + y) r lv st G
  | .isub => am_bin (fun x y => x - y) r lv st G
  | .imul => am_bin (fun x y => x * y) r lv st G
  | .iand => am_bin (fun x y => x &&& y) r lv st G
  | .ior => am_bin (fun x y => x ||| y) r lv st G
  | .ixor => am_bin (fun x y => x ^^^ y) r lv st G
  | .ishl => am_bin (fun x y => x <<< (y &&& 31)) r lv st G
  | .ishr => am_bin (fun x y => x >>> (y &&& 31)) r lv st G
  | .iushr => am_bin (fun x y => (x.toUInt32 >>> (y.toUInt32 &&& Int32.toUInt32 31)).toInt32) r lv st G
  | .idiv => am_binZ (fun x y => x / y) r lv st G
  | .irem => am_binZ (fun x y => x - x / y * y) r lv st G
  | .ineg => am_un (fun x => -x) r lv st G
  | .i2b => am_un (fun x => x.toInt8.toInt32) r lv st G
  | .i2s => am_un (fun x => x.toInt16.toInt32) r lv st G
  | .i2c => am_un (fun x => (x.toUInt32 % 65536).toInt32) r lv st G
  | .i2l => (match st with
    | .int x :: s => am_push r lv s G (.long x.toInt64)
    | _ => none)
  | .ladd => am_binL (fun x y => x + y) r lv st G
  | .lmul => am_binL (fun x y => x * y) r lv st G
  | .lcmp => (match st with
    | .long y :: .long x :: s => am_push r lv s G (.int (lg_cmp x y))
    | _ => none)
  | .dup => (match st with
    | v :: s => if am_c1 v = true then some (.inl (r, lv, v :: v :: s, G)) else none
    | _ => none)
  | .dup2 => (match st with
    | v :: w :: s => if am_c1 v = true ∧ am_c1 w = true then some (.inl (r, lv, v :: w :: v :: w :: s, G)) else none
    | _ => none)
  | .pop => (match st with
    | v :: s => if am_c1 v = true then some (.inl (r, lv, s, G)) else none
    | _ => none)
  | .getfield f => (match st with
    | .ref o :: s => am_opt (am_gf G o f) fun v => am_push r lv s G v
    | _ => none)
  | .putfield f => (match st with
    | .int x :: .ref o :: s => am_opt (am_pf G o f x) fun G' => some (.inl (r, lv, s, G'))
    | _ => none)
  | .getstatic j => am_push r lv st G (if j = 0 then .ref 300 else if j = 1 then .int (nI 1) else .ref 500)
  | .iaload => (match st with
    | .int i :: .ref o :: s => am_opt (am_ald X G o i) fun x => am_push r lv s G (.int x)
    | _ => none)
  | .baload => (match st with
    | .int i :: .ref o :: s => am_opt (am_bld o i) fun x => am_push r lv s G (.int x)
    | _ => none)
  | .aaload => (match st with
    | .int i :: .ref o :: s => am_opt (am_qld o i) fun x => am_push r lv s G (.ref x)
    | _ => none)
  | .iastore => (match st with
    | .int x :: .int i :: .ref o :: s => am_opt (am_ast G o i x) fun G' => some (.inl (r, lv, s, G'))
    | _ => none)
  | .arraylength => (match st with
    | .ref o :: s => am_opt (am_len X o) fun n => am_push r lv s G (.int (nI n))
    | _ => none)
  | .goto t => some (.inl (am_blk k t.toNat, lv, st, G))
  | .goto_w t => some (.inl (am_blk k t.toNat, lv, st, G))
  | .ifCond c t => (match st with
    | .int x :: s => some (.inl (if am_cmpB c x (nI 0) = true then am_blk k t.toNat else r, lv, s, G))
    | _ => none)
  | .if_icmp c t => (match st with
    | .int y :: .int x :: s => some (.inl (if am_cmpB c x y = true then am_blk k t.toNat else r, lv, s, G))
    | _ => none)
  | .tableswitch d lo hi offs => (match st with
    | .int x :: s => some (.inl (am_blk k (am_sw d lo hi offs x).toNat, lv, s, G))
    | _ => none)
  | .ret t => (match st with
    | [.int v] => if t = 0 ∨ (t = 1 ∧ (v = nI 0 ∨ v = nI 1)) ∨ (t = 2 ∧ v.toInt8.toInt32 = v) ∨ (t = 3 ∧ (v.toUInt32 % 65536).toInt32 = v) then some (.inr (.inl (some (.int v), G))) else none
    | [.long v] => if t = 4 then some (.inr (.inl (some (.long v), G))) else none
    | [.ref v] => if t = 5 ∧ v < 500 then some (.inr (.inl (some (.ref v), G))) else none
    | _ => none)
  | .return_ => (match st with
    | [] => some (.inr (.inl (none, G)))
    | _ => none)
  | .invokeinterface m c => if m = 999 then (match st with
      | .int n :: .int dp :: .ref o2 :: .int sp :: .ref o1 :: s => if s.length ≤ 4 then am_opt (am_cpy G o1 sp o2 dp n) fun G' => some (.inl (r, lv, s, G')) else none
      | _ => none)
    else if c ≤ st.length ∧ (st.drop c).length ≤ 4 ∧ am_rcv m (st.take c).reverse = true then some (.inr (.inr (m, (st.take c).reverse, lv, st.drop c))) else none
  | _ => none
noncomputable def am_run (X : AmX) : Nat → Nat → List Instr → LV → List Value → GG → Option (Option Value × GG)
  | 0, _, _, _, _, _ => none
  | _ + 1, _, [], _, _, _ => none
  | n + 1, k, i :: r, lv, st, G => match am_st X k i r lv st G with
    | none => none
    | some (.inl (ops, lv', st', G')) => am_run X n k ops lv' st' G'
    | some (.inr (.inl z)) => some z
    | some (.inr (.inr (m, args, lv', st'))) => match am_run X n m (am_blk m 0) (am_ent m args) [] G with
      | none => none
      | some (v, G') => am_run X n k r lv' (v.toList ++ st') G'
end
section
/-! ===== reasoning about the small machine: WP, one rewriting rule an instruction ===== -/
theorem am_mono (X : AmX) : ∀ (n k : Nat) (ops : List Instr) (lv : LV) (st : List Value) (G : GG) (z : Option Value × GG), am_run X n k ops lv st G = some z → ∀ d : Nat, am_run X (n + d) k ops lv st G = some z := by
  intro n
  induction n with
  | zero => intro k ops lv st G z h; cases h
  | succ n ih =>
    intro k ops lv st G z h d
    rw [show n + 1 + d = (n + d) + 1 by omega]
    cases ops with
    | nil => cases h
    | cons i r =>
      unfold am_run at h ⊢
      cases hs : am_st X k i r lv st G with
      | none => rw [hs] at h; cases h
      | some o =>
        rw [hs] at h
        rcases o with ⟨ops', lv', st', G'⟩ | z' | ⟨m, args, lv', st'⟩
        · exact ih _ _ _ _ _ _ h d
        · exact h
        · simp only at h ⊢
          cases hc : am_run X n m (am_blk m 0) (am_ent m args) [] G with
          | none => rw [hc] at h; cases h
          | some w =>
            rw [hc] at h
            rw [ih _ _ _ _ _ _ hc d]
            exact ih _ _ _ _ _ _ h d
def WP (X : AmX) (k : Nat) (ops : List Instr) (lv : LV) (st : List Value) (G : GG) (Q : Option Value → GG → Prop) : Prop := ∃ (n : Nat) (v : Option Value) (G' : GG), am_run X n k ops lv st G = some (v, G') ∧ Q v G'
abbrev WPm (X : AmX) (m : Nat) (args : List Value) (G : GG) (Q : Option Value → GG → Prop) : Prop := WP X m (am_blk m 0) (am_ent m args) [] G Q
def Ev (X : AmX) (m : Nat) (args : List Value) (G : GG) (v : Option Value) (G' : GG) : Prop := ∃ n, am_run X n m (am_blk m 0) (am_ent m args) [] G = some (v, G')
theorem am_det {X : AmX} {n1 n2 k : Nat} {ops : List Instr} {lv : LV} {st : List Value} {G : GG} {z1 z2 : Option Value × GG} (h1 : am_run X n1 k ops lv st G = some z1) (h2 : am_run X n2 k ops lv st G = some z2) : z1 = z2 := by
  have a := am_mono X n1 k ops lv st G z1 h1 n2
  have b := am_mono X n2 k ops lv st G z2 h2 n1
  rw [Nat.add_comm] at b
  exact Option.some.inj (a.symm.trans b)
theorem Ev_of {X : AmX} {m : Nat} {args : List Value} {G G' : GG} {v : Option Value} (h : WPm X m args G (fun w H => w = v ∧ H = G')) : Ev X m args G v G' := by
  obtain ⟨n, w, H, h1, rfl, rfl⟩ := h
  exact ⟨n, h1⟩
theorem WPm_ev {X : AmX} {m : Nat} {args : List Value} {G : GG} {Q : Option Value → GG → Prop} (h : WPm X m args G Q) : ∃ v G', Ev X m args G v G' ∧ Q v G' := by
  obtain ⟨n, v, G', h1, h2⟩ := h
  exact ⟨v, G', ⟨n, h1⟩, h2⟩
theorem WP_mono {X : AmX} {k : Nat} {ops : List Instr} {lv : LV} {st : List Value} {G : GG} {Q Q' : Option Value → GG → Prop} (h : WP X k ops lv st G Q) (hq : ∀ v H, Q v H → Q' v H) : WP X k ops lv st G Q' := by
  obtain ⟨n, v, G', h1, h2⟩ := h
  exact ⟨n, v, G', h1, hq _ _ h2⟩
section WPr
variable {X : AmX} {k : Nat} {i : Instr} {r : List Instr} {lv : LV} {st : List Value} {G : GG} {Q : Option Value → GG → Prop}
theorem WP_go {ops' : List Instr} {lv' : LV} {st' : List Value} {G' : GG} (h : am_st X k i r lv st G = some (.inl (ops', lv', st', G'))) : WP X k (i :: r) lv st G Q ↔ WP X k ops' lv' st' G' Q := by
  constructor
  · rintro ⟨n, v, H, h1, h2⟩
    cases n with
    | zero => cases h1
    | succ n => unfold am_run at h1; rw [h] at h1; exact ⟨n, v, H, h1, h2⟩
  · rintro ⟨n, v, H, h1, h2⟩
    exact ⟨n + 1, v, H, by unfold am_run; rw [h]; exact h1, h2⟩
theorem WP_end {v : Option Value} {G' : GG} (h : am_st X k i r lv st G = some (.inr (.inl (v, G')))) : WP X k (i :: r) lv st G Q ↔ Q v G' := by
  constructor
  · rintro ⟨n, w, H, h1, h2⟩
    cases n with
    | zero => cases h1
    | succ n => unfold am_run at h1; rw [h] at h1; cases h1; exact h2
  · intro h2
    exact ⟨1, v, G', by unfold am_run; rw [h], h2⟩
theorem WP_stuck (h : am_st X k i r lv st G = none) : WP X k (i :: r) lv st G Q ↔ False := by
  constructor
  · rintro ⟨n, w, H, h1, h2⟩
    cases n with
    | zero => cases h1
    | succ n => unfold am_run at h1; rw [h] at h1; cases h1
  · exact False.elim
theorem WP_opt {α : Type} {o : Option α} {f : α → AmR} (h : am_st X k i r lv st G = am_opt o f) {P : α → Prop} (hf : ∀ x, o = some x → (∃ ops' lv' st' G', f x = some (.inl (ops', lv', st', G')) ∧ (WP X k ops' lv' st' G' Q ↔ P x))) : WP X k (i :: r) lv st G Q ↔ ∃ x, o = some x ∧ P x := by
  cases ho : o with
  | none => rw [ho] at h; rw [WP_stuck h]; simp
  | some x =>
    rw [ho] at h
    obtain ⟨a, b, c, d, e1, e2⟩ := hf x ho
    rw [WP_go (h.trans e1), e2]
    simp
theorem WP_callIn {m : Nat} {args : List Value} {lv' : LV} {st' : List Value} (h : am_st X k i r lv st G = some (.inr (.inr (m, args, lv', st')))) : WP X k (i :: r) lv st G Q ↔ WPm X m args G (fun v G1 => WP X k r lv' (v.toList ++ st') G1 Q) := by
  constructor
  · rintro ⟨n, w, H, h1, h2⟩
    cases n with
    | zero => cases h1
    | succ n =>
      unfold am_run at h1
      rw [h] at h1
      simp only at h1
      cases hc : am_run X n m (am_blk m 0) (am_ent m args) [] G with
      | none => rw [hc] at h1; cases h1
      | some z =>
        rw [hc] at h1
        exact ⟨n, z.1, z.2, hc, n, w, H, h1, h2⟩
  · rintro ⟨n1, v, G1, h1, n2, w, H, h2, h3⟩
    refine ⟨n1 + n2 + 1, w, H, ?_, h3⟩
    unfold am_run
    rw [h]
    simp only
    rw [am_mono X _ _ _ _ _ _ _ h1 n2, Nat.add_comm n1 n2]
    exact am_mono X _ _ _ _ _ _ _ h2 n1
theorem WPm_Ev {m : Nat} {args : List Value} {v : Option Value} {G' : GG} (h : Ev X m args G v G') : WPm X m args G Q ↔ Q v G' := by
  obtain ⟨n, hn⟩ := h
  constructor
  · rintro ⟨n2, w, H, h1, h2⟩
    have e := am_det h1 hn
    cases e
    exact h2
  · intro h2
    exact ⟨n, v, G', hn, h2⟩
/-- a call, with the callee's contract -/
theorem WP_ev {m c : Nat} {args rest : List Value} {v : Option Value} {G' : GG} (hev : Ev X m args G v G') (hm : m ≠ 999) (hc : args.length = c) (hst : st = args.reverse ++ rest) (hl : rest.length ≤ 4) (hr : am_rcv m args = true) : WP X k (.invokeinterface m c :: r) lv st G Q ↔ WP X k r lv (v.toList ++ rest) G' Q := by
  have h1 : st.take c = args.reverse := by rw [hst, ← hc, ← List.length_reverse]; exact List.take_left
  have h2 : st.drop c = rest := by rw [hst, ← hc, ← List.length_reverse]; exact List.drop_left
  have h3 : c ≤ st.length := by rw [hst, List.length_append, List.length_reverse]; omega
  have h : am_st X k (.invokeinterface m c) r lv st G = some (.inr (.inr (m, args, lv, rest))) := by
    show (if m = 999 then _ else _) = _
    rw [if_neg hm, h1, h2, List.reverse_reverse, if_pos ⟨h3, hl, hr⟩]
  rw [WP_callIn h, WPm_Ev hev]
theorem am_cmpB_iff (c : Jvm.ClassFile.Cond) (x y : Int32) : am_cmpB c x y = true ↔ am_cmp c x y := by
  cases c <;> simp [am_cmpB, am_cmp]
theorem WP_ifc {c : Jvm.ClassFile.Cond} {x y : Int32} {a b : List Instr} {P : Prop} [Decidable P] (hP : am_cmp c x y ↔ P) : WP X k (if am_cmpB c x y = true then a else b) lv st G Q ↔ ((P → WP X k a lv st G Q) ∧ (¬ P → WP X k b lv st G Q)) := by
  by_cases h : P
  · rw [if_pos ((am_cmpB_iff c x y).mpr (hP.mpr h))]; simp [h]
  · rw [if_neg (fun z => h (hP.mp ((am_cmpB_iff c x y).mp z)))]; simp [h]
theorem WP_ifn {c : Jvm.ClassFile.Cond} {x y : Int32} {a b : List Instr} {P : Prop} [Decidable P] (hP : am_cmp c x y ↔ ¬ P) : WP X k (if am_cmpB c x y = true then a else b) lv st G Q ↔ ((P → WP X k b lv st G Q) ∧ (¬ P → WP X k a lv st G Q)) := by
  by_cases h : P
  · rw [if_neg (fun z => (hP.mp ((am_cmpB_iff c x y).mp z)) h)]; simp [h]
  · rw [if_pos ((am_cmpB_iff c x y).mpr (hP.mpr h))]; simp [h]
-- constants, locals
theorem wp_ldc {n : Nat} : WP X k (.ldc n :: r) lv st G Q ↔ WP X k r lv (.int (nI n) :: st) G Q := WP_go rfl
theorem wp_sipush {n : Int} : WP X k (.sipush n :: r) lv st G Q ↔ WP X k r lv (.int (am_ci n) :: st) G Q := WP_go rfl
theorem wp_ldc_w {j : Nat} : WP X k (.ldc_w j :: r) lv st G Q ↔ WP X k r lv (.ref (100 + j) :: st) G Q := WP_go rfl
theorem wp_lconst {n : Fin 2} : WP X k (.lconst n :: r) lv st G Q ↔ WP X k r lv (.long (Int64.ofNat n.val) :: st) G Q := WP_go rfl
theorem wp_iload {j : Nat} {x : Int32} (h : lv[j]? = some (some (.int x))) : WP X k (.iload j :: r) lv st G Q ↔ WP X k r lv (.int x :: st) G Q := WP_go (by simp only [am_st, h]; rfl)
theorem wp_aload {j x : Nat} (h : lv[j]? = some (some (.ref x))) (hx : x < 500) : WP X k (.aload j :: r) lv st G Q ↔ WP X k r lv (.ref x :: st) G Q := WP_go (by simp only [am_st, h, if_pos hx]; rfl)
theorem wp_lload {j : Nat} {x : Int64} (h : lv[j]? = some (some (.long x))) : WP X k (.lload j :: r) lv st G Q ↔ WP X k r lv (.long x :: st) G Q := WP_go (by simp only [am_st, h]; rfl)
theorem wp_istore {j : Nat} {x : Int32} {lv' : LV} (h : am_ok1 lv j = true) (hl : lv.set j (some (.int x)) = lv') : WP X k (.istore j :: r) lv (.int x :: st) G Q ↔ WP X k r lv' st G Q := WP_go (by simp only [am_st, if_pos h, hl])
theorem wp_astore {j x : Nat} {lv' : LV} (h : am_ok1 lv j = true) (hx : x < 500) (hl : lv.set j (some (.ref x)) = lv') : WP X k (.astore j :: r) lv (.ref x :: st) G Q ↔ WP X k r lv' st G Q := WP_go (by simp only [am_st]; rw [if_pos ⟨h, hx⟩, hl])
theorem wp_lstore {j : Nat} {x : Int64} {lv' : LV} (h : am_ok2 lv j = true) (hl : (lv.set j (some (.long x))).set (j + 1) none = lv') : WP X k (.lstore j :: r) lv (.long x :: st) G Q ↔ WP X k r lv' st G Q := WP_go (by simp only [am_st, if_pos h, hl])
theorem wp_iinc {j : Nat} {n : Int} {x : Int32} {lv' : LV} (h : lv[j]? = some (some (.int x))) (h2 : am_ok1 lv j = true) (hl : lv.set j (some (.int (x + am_ci n))) = lv') : WP X k (.iinc j n :: r) lv st G Q ↔ WP X k r lv' st G Q := WP_go (by simp only [am_st, h, if_pos h2, hl])
-- arithmetic
theorem wp_iadd {x y : Int32} : WP X k (.iadd :: r) lv (.int y :: .int x :: st) G Q ↔ WP X k r lv (.int (x + y) :: st) G Q := WP_go rfl
theorem wp_isub {x y : Int32} : WP X k (.isub :: r) lv (.int y :: .int x :: st) G Q ↔ WP X k r lv (.int (x - y) :: st) G Q := WP_go rfl
theorem wp_imul {x y : Int32} : WP X k (.imul :: r) lv (.int y :: .int x :: st) G Q ↔ WP X k r lv (.int (x * y) :: st) G Q := WP_go rfl
theorem wp_iand {x y : Int32} : WP X k (.iand :: r) lv (.int y :: .int x :: st) G Q ↔ WP X k r lv (.int (x &&& y) :: st) G Q := WP_go rfl
theorem wp_ior {x y : Int32} : WP X k (.ior :: r) lv (.int y :: .int x :: st) G Q ↔ WP X k r lv (.int (x ||| y) :: st) G Q := WP_go rfl
theorem wp_ixor {x y : Int32} : WP X k (.ixor :: r) lv (.int y :: .int x :: st) G Q ↔ WP X k r lv (.int (x ^^^ y) :: st) G Q := WP_go rfl
theorem wp_ishl {x y : Int32} : WP X k (.ishl :: r) lv (.int y :: .int x :: st) G Q ↔ WP X k r lv (.int (x <<< (y &&& 31)) :: st) G Q := WP_go rfl
theorem wp_ishr {x y : Int32} : WP X k (.ishr :: r) lv (.int y :: .int x :: st) G Q ↔ WP X k r lv (.int (x >>> (y &&& 31)) :: st) G Q := WP_go rfl
theorem wp_iushr {x y : Int32} : WP X k (.iushr :: r) lv (.int y :: .int x :: st) G Q ↔ WP X k r lv (.int ((x.toUInt32 >>> (y.toUInt32 &&& Int32.toUInt32 31)).toInt32) :: st) G Q := WP_go rfl
theorem wp_idiv {x y : Int32} : WP X k (.idiv :: r) lv (.int y :: .int x :: st) G Q ↔ (¬ y = nI 0 ∧ WP X k r lv (.int (x / y) :: st) G Q) := by
  by_cases h : y = nI 0
  · rw [WP_stuck (by simp [am_st, am_binZ, h])]; simp [h]
  · rw [WP_go (by simp only [am_st, am_binZ, if_neg h]; rfl)]; simp [h]
theorem wp_irem {x y : Int32} : WP X k (.irem :: r) lv (.int y :: .int x :: st) G Q ↔ (¬ y = nI 0 ∧ WP X k r lv (.int (x - x / y * y) :: st) G Q) := by
  by_cases h : y = nI 0
  · rw [WP_stuck (by simp [am_st, am_binZ, h])]; simp [h]
  · rw [WP_go (by simp only [am_st, am_binZ, if_neg h]; rfl)]; simp [h]
theorem wp_ineg {x : Int32} : WP X k (.ineg :: r) lv (.int x :: st) G Q ↔ WP X k r lv (.int (-x) :: st) G Q := WP_go rfl
theorem wp_i2b {x : Int32} : WP X k (.i2b :: r) lv (.int x :: st) G Q ↔ WP X k r lv (.int x.toInt8.toInt32 :: st) G Q := WP_go rfl
theorem wp_i2s {x : Int32} : WP X k (.i2s :: r) lv (.int x :: st) G Q ↔ WP X k r lv (.int x.toInt16.toInt32 :: st) G Q := WP_go rfl
theorem wp_i2c {x : Int32} : WP X k (.i2c :: r) lv (.int x :: st) G Q ↔ WP X k r lv (.int (x.toUInt32 % 65536).toInt32 :: st) G Q := WP_go rfl
theorem wp_i2l {x : Int32} : WP X k (.i2l :: r) lv (.int x :: st) G Q ↔ WP X k r lv (.long x.toInt64 :: st) G Q := WP_go rfl
theorem wp_ladd {x y : Int64} : WP X k (.ladd :: r) lv (.long y :: .long x :: st) G Q ↔ WP X k r lv (.long (x + y) :: st) G Q := WP_go rfl
theorem wp_lmul {x y : Int64} : WP X k (.lmul :: r) lv (.long y :: .long x :: st) G Q ↔ WP X k r lv (.long (x * y) :: st) G Q := WP_go rfl
theorem wp_lcmp {x y : Int64} : WP X k (.lcmp :: r) lv (.long y :: .long x :: st) G Q ↔ WP X k r lv (.int (lg_cmp x y) :: st) G Q := WP_go rfl
theorem wp_dup_i {x : Int32} : WP X k (.dup :: r) lv (.int x :: st) G Q ↔ WP X k r lv (.int x :: .int x :: st) G Q := WP_go rfl
theorem wp_dup_r {x : Nat} : WP X k (.dup :: r) lv (.ref x :: st) G Q ↔ WP X k r lv (.ref x :: .ref x :: st) G Q := WP_go rfl
theorem wp_dup2 {x : Int32} {y : Nat} : WP X k (.dup2 :: r) lv (.int x :: .ref y :: st) G Q ↔ WP X k r lv (.int x :: .ref y :: .int x :: .ref y :: st) G Q := WP_go rfl
theorem wp_pop {x : Int32} : WP X k (.pop :: r) lv (.int x :: st) G Q ↔ WP X k r lv st G Q := WP_go rfl
-- fields, arrays
theorem wp_getfield {f o : Nat} : WP X k (.getfield f :: r) lv (.ref o :: st) G Q ↔ ∃ v, am_gf G o f = some v ∧ WP X k r lv (v :: st) G Q := WP_opt (by rfl) (fun x _ => ⟨_, _, _, _, rfl, Iff.rfl⟩)
theorem wp_putfield {f o : Nat} {x : Int32} : WP X k (.putfield f :: r) lv (.int x :: .ref o :: st) G Q ↔ ∃ G', am_pf G o f x = some G' ∧ WP X k r lv st G' Q := WP_opt (by rfl) (fun x _ => ⟨_, _, _, _, rfl, Iff.rfl⟩)
theorem wp_getstatic {j : Nat} : WP X k (.getstatic j :: r) lv st G Q ↔ WP X k r lv ((if j = 0 then .ref 300 else if j = 1 then .int (nI 1) else .ref 500) :: st) G Q := WP_go rfl
theorem wp_iaload {i : Int32} {o : Nat} : WP X k (.iaload :: r) lv (.int i :: .ref o :: st) G Q ↔ ∃ x, am_ald X G o i = some x ∧ WP X k r lv (.int x :: st) G Q := WP_opt (by rfl) (fun x _ => ⟨_, _, _, _, rfl, Iff.rfl⟩)
theorem wp_baload {i : Int32} {o : Nat} : WP X k (.baload :: r) lv (.int i :: .ref o :: st) G Q ↔ ∃ x, am_bld o i = some x ∧ WP X k r lv (.int x :: st) G Q := WP_opt (by rfl) (fun x _ => ⟨_, _, _, _, rfl, Iff.rfl⟩)
theorem wp_aaload {i : Int32} {o : Nat} : WP X k (.aaload :: r) lv (.int i :: .ref o :: st) G Q ↔ ∃ x, am_qld o i = some x ∧ WP X k r lv (.ref x :: st) G Q := WP_opt (by rfl) (fun x _ => ⟨_, _, _, _, rfl, Iff.rfl⟩)
theorem wp_iastore {i x : Int32} {o : Nat} : WP X k (.iastore :: r) lv (.int x :: .int i :: .ref o :: st) G Q ↔ ∃ G', am_ast G o i x = some G' ∧ WP X k r lv st G' Q := WP_opt (by rfl) (fun x _ => ⟨_, _, _, _, rfl, Iff.rfl⟩)
theorem wp_arraylength {o : Nat} : WP X k (.arraylength :: r) lv (.ref o :: st) G Q ↔ ∃ n, am_len X o = some n ∧ WP X k r lv (.int (nI n) :: st) G Q := WP_opt (by rfl) (fun x _ => ⟨_, _, _, _, rfl, Iff.rfl⟩)
-- jumps, ends
theorem wp_goto {t : Int} : WP X k (.goto t :: r) lv st G Q ↔ WP X k (am_blk k t.toNat) lv st G Q := WP_go rfl
theorem wp_fall {t : Int} : WP X k (.goto_w t :: r) lv st G Q ↔ WP X k (am_blk k t.toNat) lv st G Q := WP_go rfl
theorem wp_ieq {t : Int} {x : Int32} : WP X k (.ifCond .eq t :: r) lv (.int x :: st) G Q ↔ ((x = nI 0 → WP X k (am_blk k t.toNat) lv st G Q) ∧ (¬ x = nI 0 → WP X k r lv st G Q)) := (WP_go rfl).trans (WP_ifc Iff.rfl)
theorem wp_ine {t : Int} {x : Int32} : WP X k (.ifCond .ne t :: r) lv (.int x :: st) G Q ↔ ((x = nI 0 → WP X k r lv st G Q) ∧ (¬ x = nI 0 → WP X k (am_blk k t.toNat) lv st G Q)) := (WP_go rfl).trans (WP_ifn Iff.rfl)
theorem wp_ilt {t : Int} {x : Int32} : WP X k (.ifCond .lt t :: r) lv (.int x :: st) G Q ↔ ((x < nI 0 → WP X k (am_blk k t.toNat) lv st G Q) ∧ (¬ x < nI 0 → WP X k r lv st G Q)) := (WP_go rfl).trans (WP_ifc Iff.rfl)
theorem wp_ige {t : Int} {x : Int32} : WP X k (.ifCond .ge t :: r) lv (.int x :: st) G Q ↔ ((nI 0 ≤ x → WP X k (am_blk k t.toNat) lv st G Q) ∧ (¬ nI 0 ≤ x → WP X k r lv st G Q)) := (WP_go rfl).trans (WP_ifc Iff.rfl)
theorem wp_igt {t : Int} {x : Int32} : WP X k (.ifCond .gt t :: r) lv (.int x :: st) G Q ↔ ((nI 0 < x → WP X k (am_blk k t.toNat) lv st G Q) ∧ (¬ nI 0 < x → WP X k r lv st G Q)) := (WP_go rfl).trans (WP_ifc Iff.rfl)
theorem wp_ile {t : Int} {x : Int32} : WP X k (.ifCond .le t :: r) lv (.int x :: st) G Q ↔ ((x ≤ nI 0 → WP X k (am_blk k t.toNat) lv st G Q) ∧ (¬ x ≤ nI 0 → WP X k r lv st G Q)) := (WP_go rfl).trans (WP_ifc Iff.rfl)
theorem wp_ceq {t : Int} {x y : Int32} : WP X k (.if_icmp .eq t :: r) lv (.int y :: .int x :: st) G Q ↔ ((x = y → WP X k (am_blk k t.toNat) lv st G Q) ∧ (¬ x = y → WP X k r lv st G Q)) := (WP_go rfl).trans (WP_ifc Iff.rfl)
theorem wp_cne {t : Int} {x y : Int32} : WP X k (.if_icmp .ne t :: r) lv (.int y :: .int x :: st) G Q ↔ ((x = y → WP X k r lv st G Q) ∧ (¬ x = y → WP X k (am_blk k t.toNat) lv st G Q)) := (WP_go rfl).trans (WP_ifn Iff.rfl)
theorem wp_clt {t : Int} {x y : Int32} : WP X k (.if_icmp .lt t :: r) lv (.int y :: .int x :: st) G Q ↔ ((x < y → WP X k (am_blk k t.toNat) lv st G Q) ∧ (¬ x < y → WP X k r lv st G Q)) := (WP_go rfl).trans (WP_ifc Iff.rfl)
theorem wp_cge {t : Int} {x y : Int32} : WP X k (.if_icmp .ge t :: r) lv (.int y :: .int x :: st) G Q ↔ ((y ≤ x → WP X k (am_blk k t.toNat) lv st G Q) ∧ (¬ y ≤ x → WP X k r lv st G Q)) := (WP_go rfl).trans (WP_ifc Iff.rfl)
theorem wp_cgt {t : Int} {x y : Int32} : WP X k (.if_icmp .gt t :: r) lv (.int y :: .int x :: st) G Q ↔ ((y < x → WP X k (am_blk k t.toNat) lv st G Q) ∧ (¬ y < x → WP X k r lv st G Q)) := (WP_go rfl).trans (WP_ifc Iff.rfl)
theorem wp_cle {t : Int} {x y : Int32} : WP X k (.if_icmp .le t :: r) lv (.int y :: .int x :: st) G Q ↔ ((x ≤ y → WP X k (am_blk k t.toNat) lv st G Q) ∧ (¬ x ≤ y → WP X k r lv st G Q)) := (WP_go rfl).trans (WP_ifc Iff.rfl)
theorem wp_sw {d lo hi : Int} {offs : Array Int} {x : Int32} : WP X k (.tableswitch d lo hi offs :: r) lv (.int x :: st) G Q ↔ WP X k (am_blk k (am_sw d lo hi offs x).toNat) lv st G Q := WP_go rfl
theorem wp_ret0 {v : Int32} : WP X k (.ret 0 :: r) lv [.int v] G Q ↔ Q (some (.int v)) G := WP_end (by simp [am_st])
theorem wp_ret1 {v : Int32} (h : v = nI 0 ∨ v = nI 1) : WP X k (.ret 1 :: r) lv [.int v] G Q ↔ Q (some (.int v)) G := WP_end (by simp [am_st, h])
theorem wp_ret2 {v : Int32} (h : v.toInt8.toInt32 = v) : WP X k (.ret 2 :: r) lv [.int v] G Q ↔ Q (some (.int v)) G := WP_end (by simp only [am_st]; exact if_pos (Or.inr (Or.inr (Or.inl ⟨trivial, h⟩))))
theorem wp_ret3 {v : Int32} (h : (v.toUInt32 % 65536).toInt32 = v) : WP X k (.ret 3 :: r) lv [.int v] G Q ↔ Q (some (.int v)) G := WP_end (by simp only [am_st]; exact if_pos (Or.inr (Or.inr (Or.inr ⟨trivial, h⟩))))
theorem wp_ret4 {v : Int64} : WP X k (.ret 4 :: r) lv [.long v] G Q ↔ Q (some (.long v)) G := WP_end (by simp [am_st])
theorem wp_ret5 {v : Nat} (h : v < 500) : WP X k (.ret 5 :: r) lv [.ref v] G Q ↔ Q (some (.ref v)) G := WP_end (by simp [am_st, h])
theorem wp_return : WP X k (.return_ :: r) lv [] G Q ↔ Q none G := WP_end rfl
theorem wp_copy {n dp sp : Int32} {o1 o2 : Nat} (h : st.length ≤ 4) : WP X k (.invokeinterface 999 5 :: r) lv (.int n :: .int dp :: .ref o2 :: .int sp :: .ref o1 :: st) G Q ↔ ∃ G', am_cpy G o1 sp o2 dp n = some G' ∧ WP X k r lv st G' Q := WP_opt (by simp only [am_st, if_pos h]; rfl) (fun x _ => ⟨_, _, _, _, rfl, Iff.rfl⟩)
end WPr
end
section
/-! ===== rules by place: locals, fields, arrays; printed by program ===== -/
section WPS
variable {X : AmX} {k : Nat} {r : List Instr} {l : LV} {st : List Value} {G : GG} {Q : Option Value → GG → Prop}
def am_nl (a : Option Value) : Bool := match a with
  | some (.long _) => false
  | _ => true
theorem am_ok1_app (p : LV) (a b : Option Value) (l : LV) (h : am_nl a = true) : am_ok1 (p ++ a :: b :: l) (p.length + 1) = true := by
  have e : (p ++ a :: b :: l)[p.length]? = some a := by simp
  have e2 : p.length + 1 < (p ++ a :: b :: l).length := by simp
  simp only [am_ok1, e, e2, decide_true, Bool.true_and]
  rcases a with _ | (_ | _ | _ | _ | _ | _ | _) <;> first | rfl | cases h
theorem am_ex {α : Type} {a : α} {P : α → Prop} : (∃ x, some a = some x ∧ P x) ↔ P a := by simp
theorem gset_eq {G : GG} {k : Nat} {f : Nat → Int32} : gset G k f k = f := if_pos rfl
theorem gset_ne {G : GG} {k j : Nat} {f : Nat → Int32} (h : ¬ j = k) : gset G k f j = G j := if_neg h
theorem upd_eq {f : Nat → Int32} {k : Nat} {x : Int32} : upd f k x k = x := if_pos rfl
theorem upd_ne {f : Nat → Int32} {k j : Nat} {x : Int32} (h : ¬ j = k) : upd f k x j = f j := if_neg h
theorem gset_gset {G : GG} {k : Nat} {f g : Nat → Int32} : gset (gset G k f) k g = gset G k g := by
  funext j; unfold gset; by_cases h : j = k <;> simp [h]
theorem am_nI_inj {a b : Nat} (ha : a < 2 ^ 31) (hb : b < 2 ^ 31) : (nI a = nI b) = (a = b) := propext (nI_eq ha hb)
theorem am_nI_lt {a b : Nat} (ha : a < 2 ^ 31) (hb : b < 2 ^ 31) : (nI a < nI b) = (a < b) := propext (nI_ltI ha hb)
theorem am_nI_le {a b : Nat} (ha : a < 2 ^ 31) (hb : b < 2 ^ 31) : (nI a ≤ nI b) = (a ≤ b) := propext (nI_leI ha hb)
theorem am_ci_1 : am_ci 1 = nI 1 := rfl
theorem am_ci_6 : am_ci 6 = nI 6 := rfl
theorem am_nI_sub {a b : Nat} (h : b ≤ a) : nI a - nI b = nI (a - b) := pk_sub h
theorem am_add_m1 {a : Nat} (h : 0 < a) : nI a + am_ci (-1) = nI (a - 1) := by
  rw [show a = (a - 1) + 1 by omega, show am_ci (-1) = -1 from rfl, pk_m1]; rfl
theorem am_toList_some {v : Value} {s : List Value} : (some v).toList ++ s = v :: s := rfl
theorem am_toList_none {s : List Value} : (none : Option Value).toList ++ s = s := rfl
theorem wil0 {x : Int32} : WP X k (.iload 0 :: r) (some (.int x) :: l) st G Q ↔ WP X k r (some (.int x) :: l) (.int x :: st) G Q := wp_iload rfl
theorem wal0 {x : Nat} (hx : x < 500) : WP X k (.aload 0 :: r) (some (.ref x) :: l) st G Q ↔ WP X k r (some (.ref x) :: l) (.ref x :: st) G Q := wp_aload rfl hx
theorem wis0 {a0 : Option Value} {x : Int32} : WP X k (.istore 0 :: r) (a0 :: l) (.int x :: st) G Q ↔ WP X k r (some (.int x) :: l) st G Q := wp_istore (by simp [am_ok1]) rfl
theorem wic0 {x : Int32} : WP X k (.iinc 0 (1) :: r) (some (.int x) :: l) st G Q ↔ WP X k r (some (.int (x + am_ci (1))) :: l) st G Q := wp_iinc rfl (by simp [am_ok1]) rfl
theorem wil1 {a0 : Option Value} {x : Int32} : WP X k (.iload 1 :: r) (a0 :: some (.int x) :: l) st G Q ↔ WP X k r (a0 :: some (.int x) :: l) (.int x :: st) G Q := wp_iload rfl
theorem wal1 {a0 : Option Value} {x : Nat} (hx : x < 500) : WP X k (.aload 1 :: r) (a0 :: some (.ref x) :: l) st G Q ↔ WP X k r (a0 :: some (.ref x) :: l) (.ref x :: st) G Q := wp_aload rfl hx
theorem wis1 {a0 a1 : Option Value} {x : Int32} (h : am_nl a0 = true) : WP X k (.istore 1 :: r) (a0 :: a1 :: l) (.int x :: st) G Q ↔ WP X k r (a0 :: some (.int x) :: l) st G Q := wp_istore (am_ok1_app [] a0 a1 l h) rfl
theorem wic1 {a0 : Option Value} {x : Int32} (h : am_nl a0 = true) : WP X k (.iinc 1 (1) :: r) (a0 :: some (.int x) :: l) st G Q ↔ WP X k r (a0 :: some (.int (x + am_ci (1))) :: l) st G Q := wp_iinc rfl (am_ok1_app [] a0 (some (.int x)) l h) rfl
theorem wil2 {a0 a1 : Option Value} {x : Int32} : WP X k (.iload 2 :: r) (a0 :: a1 :: some (.int x) :: l) st G Q ↔ WP X k r (a0 :: a1 :: some (.int x) :: l) (.int x :: st) G Q := wp_iload rfl
theorem wll2 {a0 a1 : Option Value} {x : Int64} : WP X k (.lload 2 :: r) (a0 :: a1 :: some (.long x) :: l) st G Q ↔ WP X k r (a0 :: a1 :: some (.long x) :: l) (.long x :: st) G Q := wp_lload rfl
theorem wal2 {a0 a1 : Option Value} {x : Nat} (hx : x < 500) : WP X k (.aload 2 :: r) (a0 :: a1 :: some (.ref x) :: l) st G Q ↔ WP X k r (a0 :: a1 :: some (.ref x) :: l) (.ref x :: st) G Q := wp_aload rfl hx
theorem wis2 {a0 a1 a2 : Option Value} {x : Int32} (h : am_nl a1 = true) : WP X k (.istore 2 :: r) (a0 :: a1 :: a2 :: l) (.int x :: st) G Q ↔ WP X k r (a0 :: a1 :: some (.int x) :: l) st G Q := wp_istore (am_ok1_app [a0] a1 a2 l h) rfl
theorem was2 {a0 a1 a2 : Option Value} {x : Nat} (h : am_nl a1 = true) (hx : x < 500) : WP X k (.astore 2 :: r) (a0 :: a1 :: a2 :: l) (.ref x :: st) G Q ↔ WP X k r (a0 :: a1 :: some (.ref x) :: l) st G Q := wp_astore (am_ok1_app [a0] a1 a2 l h) hx rfl
theorem wls2 {a0 a1 a2 a3 : Option Value} {x : Int64} (h : am_nl a1 = true) : WP X k (.lstore 2 :: r) (a0 :: a1 :: a2 :: a3 :: l) (.long x :: st) G Q ↔ WP X k r (a0 :: a1 :: some (.long x) :: none :: l) st G Q := wp_lstore (by have e := am_ok1_app [a0] a1 a2 (a3 :: l) h; simp only [am_ok2, Bool.and_eq_true, decide_eq_true_eq]; exact ⟨by simp, e⟩) rfl
theorem wic2 {a0 a1 : Option Value} {x : Int32} (h : am_nl a1 = true) : WP X k (.iinc 2 (1) :: r) (a0 :: a1 :: some (.int x) :: l) st G Q ↔ WP X k r (a0 :: a1 :: some (.int (x + am_ci (1))) :: l) st G Q := wp_iinc rfl (am_ok1_app [a0] a1 (some (.int x)) l h) rfl
theorem wil3 {a0 a1 a2 : Option Value} {x : Int32} : WP X k (.iload 3 :: r) (a0 :: a1 :: a2 :: some (.int x) :: l) st G Q ↔ WP X k r (a0 :: a1 :: a2 :: some (.int x) :: l) (.int x :: st) G Q := wp_iload rfl
theorem wis3 {a0 a1 a2 a3 : Option Value} {x : Int32} (h : am_nl a2 = true) : WP X k (.istore 3 :: r) (a0 :: a1 :: a2 :: a3 :: l) (.int x :: st) G Q ↔ WP X k r (a0 :: a1 :: a2 :: some (.int x) :: l) st G Q := wp_istore (am_ok1_app [a0, a1] a2 a3 l h) rfl
theorem wic3 {a0 a1 a2 : Option Value} {x : Int32} (h : am_nl a2 = true) : WP X k (.iinc 3 (1) :: r) (a0 :: a1 :: a2 :: some (.int x) :: l) st G Q ↔ WP X k r (a0 :: a1 :: a2 :: some (.int (x + am_ci (1))) :: l) st G Q := wp_iinc rfl (am_ok1_app [a0, a1] a2 (some (.int x)) l h) rfl
theorem wic3m {a0 a1 a2 : Option Value} {x : Int32} (h : am_nl a2 = true) : WP X k (.iinc 3 (-1) :: r) (a0 :: a1 :: a2 :: some (.int x) :: l) st G Q ↔ WP X k r (a0 :: a1 :: a2 :: some (.int (x + am_ci (-1))) :: l) st G Q := wp_iinc rfl (am_ok1_app [a0, a1] a2 (some (.int x)) l h) rfl
theorem wic3s {a0 a1 a2 : Option Value} {x : Int32} (h : am_nl a2 = true) : WP X k (.iinc 3 (6) :: r) (a0 :: a1 :: a2 :: some (.int x) :: l) st G Q ↔ WP X k r (a0 :: a1 :: a2 :: some (.int (x + am_ci (6))) :: l) st G Q := wp_iinc rfl (am_ok1_app [a0, a1] a2 (some (.int x)) l h) rfl
theorem wil4 {a0 a1 a2 a3 : Option Value} {x : Int32} : WP X k (.iload 4 :: r) (a0 :: a1 :: a2 :: a3 :: some (.int x) :: l) st G Q ↔ WP X k r (a0 :: a1 :: a2 :: a3 :: some (.int x) :: l) (.int x :: st) G Q := wp_iload rfl
theorem wis4 {a0 a1 a2 a3 a4 : Option Value} {x : Int32} (h : am_nl a3 = true) : WP X k (.istore 4 :: r) (a0 :: a1 :: a2 :: a3 :: a4 :: l) (.int x :: st) G Q ↔ WP X k r (a0 :: a1 :: a2 :: a3 :: some (.int x) :: l) st G Q := wp_istore (am_ok1_app [a0, a1, a2] a3 a4 l h) rfl
theorem wic4 {a0 a1 a2 a3 : Option Value} {x : Int32} (h : am_nl a3 = true) : WP X k (.iinc 4 (1) :: r) (a0 :: a1 :: a2 :: a3 :: some (.int x) :: l) st G Q ↔ WP X k r (a0 :: a1 :: a2 :: a3 :: some (.int (x + am_ci (1))) :: l) st G Q := wp_iinc rfl (am_ok1_app [a0, a1, a2] a3 (some (.int x)) l h) rfl
theorem wil5 {a0 a1 a2 a3 a4 : Option Value} {x : Int32} : WP X k (.iload 5 :: r) (a0 :: a1 :: a2 :: a3 :: a4 :: some (.int x) :: l) st G Q ↔ WP X k r (a0 :: a1 :: a2 :: a3 :: a4 :: some (.int x) :: l) (.int x :: st) G Q := wp_iload rfl
theorem wis5 {a0 a1 a2 a3 a4 a5 : Option Value} {x : Int32} (h : am_nl a4 = true) : WP X k (.istore 5 :: r) (a0 :: a1 :: a2 :: a3 :: a4 :: a5 :: l) (.int x :: st) G Q ↔ WP X k r (a0 :: a1 :: a2 :: a3 :: a4 :: some (.int x) :: l) st G Q := wp_istore (am_ok1_app [a0, a1, a2, a3] a4 a5 l h) rfl
theorem wic5 {a0 a1 a2 a3 a4 : Option Value} {x : Int32} (h : am_nl a4 = true) : WP X k (.iinc 5 (1) :: r) (a0 :: a1 :: a2 :: a3 :: a4 :: some (.int x) :: l) st G Q ↔ WP X k r (a0 :: a1 :: a2 :: a3 :: a4 :: some (.int (x + am_ci (1))) :: l) st G Q := wp_iinc rfl (am_ok1_app [a0, a1, a2, a3] a4 (some (.int x)) l h) rfl
theorem wic5m {a0 a1 a2 a3 a4 : Option Value} {x : Int32} (h : am_nl a4 = true) : WP X k (.iinc 5 (-1) :: r) (a0 :: a1 :: a2 :: a3 :: a4 :: some (.int x) :: l) st G Q ↔ WP X k r (a0 :: a1 :: a2 :: a3 :: a4 :: some (.int (x + am_ci (-1))) :: l) st G Q := wp_iinc rfl (am_ok1_app [a0, a1, a2, a3] a4 (some (.int x)) l h) rfl
theorem wil6 {a0 a1 a2 a3 a4 a5 : Option Value} {x : Int32} : WP X k (.iload 6 :: r) (a0 :: a1 :: a2 :: a3 :: a4 :: a5 :: some (.int x) :: l) st G Q ↔ WP X k r (a0 :: a1 :: a2 :: a3 :: a4 :: a5 :: some (.int x) :: l) (.int x :: st) G Q := wp_iload rfl
theorem wll6 {a0 a1 a2 a3 a4 a5 : Option Value} {x : Int64} : WP X k (.lload 6 :: r) (a0 :: a1 :: a2 :: a3 :: a4 :: a5 :: some (.long x) :: l) st G Q ↔ WP X k r (a0 :: a1 :: a2 :: a3 :: a4 :: a5 :: some (.long x) :: l) (.long x :: st) G Q := wp_lload rfl
theorem wal6 {a0 a1 a2 a3 a4 a5 : Option Value} {x : Nat} (hx : x < 500) : WP X k (.aload 6 :: r) (a0 :: a1 :: a2 :: a3 :: a4 :: a5 :: some (.ref x) :: l) st G Q ↔ WP X k r (a0 :: a1 :: a2 :: a3 :: a4 :: a5 :: some (.ref x) :: l) (.ref x :: st) G Q := wp_aload rfl hx
theorem wis6 {a0 a1 a2 a3 a4 a5 a6 : Option Value} {x : Int32} (h : am_nl a5 = true) : WP X k (.istore 6 :: r) (a0 :: a1 :: a2 :: a3 :: a4 :: a5 :: a6 :: l) (.int x :: st) G Q ↔ WP X k r (a0 :: a1 :: a2 :: a3 :: a4 :: a5 :: some (.int x) :: l) st G Q := wp_istore (am_ok1_app [a0, a1, a2, a3, a4] a5 a6 l h) rfl
theorem was6 {a0 a1 a2 a3 a4 a5 a6 : Option Value} {x : Nat} (h : am_nl a5 = true) (hx : x < 500) : WP X k (.astore 6 :: r) (a0 :: a1 :: a2 :: a3 :: a4 :: a5 :: a6 :: l) (.ref x :: st) G Q ↔ WP X k r (a0 :: a1 :: a2 :: a3 :: a4 :: a5 :: some (.ref x) :: l) st G Q := wp_astore (am_ok1_app [a0, a1, a2, a3, a4] a5 a6 l h) hx rfl
theorem wls6 {a0 a1 a2 a3 a4 a5 a6 a7 : Option Value} {x : Int64} (h : am_nl a5 = true) : WP X k (.lstore 6 :: r) (a0 :: a1 :: a2 :: a3 :: a4 :: a5 :: a6 :: a7 :: l) (.long x :: st) G Q ↔ WP X k r (a0 :: a1 :: a2 :: a3 :: a4 :: a5 :: some (.long x) :: none :: l) st G Q := wp_lstore (by have e := am_ok1_app [a0, a1, a2, a3, a4] a5 a6 (a7 :: l) h; simp only [am_ok2, Bool.and_eq_true, decide_eq_true_eq]; exact ⟨by simp, e⟩) rfl
theorem wic6 {a0 a1 a2 a3 a4 a5 : Option Value} {x : Int32} (h : am_nl a5 = true) : WP X k (.iinc 6 (1) :: r) (a0 :: a1 :: a2 :: a3 :: a4 :: a5 :: some (.int x) :: l) st G Q ↔ WP X k r (a0 :: a1 :: a2 :: a3 :: a4 :: a5 :: some (.int (x + am_ci (1))) :: l) st G Q := wp_iinc rfl (am_ok1_app [a0, a1, a2, a3, a4] a5 (some (.int x)) l h) rfl
theorem wil7 {a0 a1 a2 a3 a4 a5 a6 : Option Value} {x : Int32} : WP X k (.iload 7 :: r) (a0 :: a1 :: a2 :: a3 :: a4 :: a5 :: a6 :: some (.int x) :: l) st G Q ↔ WP X k r (a0 :: a1 :: a2 :: a3 :: a4 :: a5 :: a6 :: some (.int x) :: l) (.int x :: st) G Q := wp_iload rfl
theorem wal7 {a0 a1 a2 a3 a4 a5 a6 : Option Value} {x : Nat} (hx : x < 500) : WP X k (.aload 7 :: r) (a0 :: a1 :: a2 :: a3 :: a4 :: a5 :: a6 :: some (.ref x) :: l) st G Q ↔ WP X k r (a0 :: a1 :: a2 :: a3 :: a4 :: a5 :: a6 :: some (.ref x) :: l) (.ref x :: st) G Q := wp_aload rfl hx
theorem wis7 {a0 a1 a2 a3 a4 a5 a6 a7 : Option Value} {x : Int32} (h : am_nl a6 = true) : WP X k (.istore 7 :: r) (a0 :: a1 :: a2 :: a3 :: a4 :: a5 :: a6 :: a7 :: l) (.int x :: st) G Q ↔ WP X k r (a0 :: a1 :: a2 :: a3 :: a4 :: a5 :: a6 :: some (.int x) :: l) st G Q := wp_istore (am_ok1_app [a0, a1, a2, a3, a4, a5] a6 a7 l h) rfl
theorem was7 {a0 a1 a2 a3 a4 a5 a6 a7 : Option Value} {x : Nat} (h : am_nl a6 = true) (hx : x < 500) : WP X k (.astore 7 :: r) (a0 :: a1 :: a2 :: a3 :: a4 :: a5 :: a6 :: a7 :: l) (.ref x :: st) G Q ↔ WP X k r (a0 :: a1 :: a2 :: a3 :: a4 :: a5 :: a6 :: some (.ref x) :: l) st G Q := wp_astore (am_ok1_app [a0, a1, a2, a3, a4, a5] a6 a7 l h) hx rfl
theorem wic7 {a0 a1 a2 a3 a4 a5 a6 : Option Value} {x : Int32} (h : am_nl a6 = true) : WP X k (.iinc 7 (1) :: r) (a0 :: a1 :: a2 :: a3 :: a4 :: a5 :: a6 :: some (.int x) :: l) st G Q ↔ WP X k r (a0 :: a1 :: a2 :: a3 :: a4 :: a5 :: a6 :: some (.int (x + am_ci (1))) :: l) st G Q := wp_iinc rfl (am_ok1_app [a0, a1, a2, a3, a4, a5] a6 (some (.int x)) l h) rfl
theorem wil8 {a0 a1 a2 a3 a4 a5 a6 a7 : Option Value} {x : Int32} : WP X k (.iload 8 :: r) (a0 :: a1 :: a2 :: a3 :: a4 :: a5 :: a6 :: a7 :: some (.int x) :: l) st G Q ↔ WP X k r (a0 :: a1 :: a2 :: a3 :: a4 :: a5 :: a6 :: a7 :: some (.int x) :: l) (.int x :: st) G Q := wp_iload rfl
theorem wis8 {a0 a1 a2 a3 a4 a5 a6 a7 a8 : Option Value} {x : Int32} (h : am_nl a7 = true) : WP X k (.istore 8 :: r) (a0 :: a1 :: a2 :: a3 :: a4 :: a5 :: a6 :: a7 :: a8 :: l) (.int x :: st) G Q ↔ WP X k r (a0 :: a1 :: a2 :: a3 :: a4 :: a5 :: a6 :: a7 :: some (.int x) :: l) st G Q := wp_istore (am_ok1_app [a0, a1, a2, a3, a4, a5, a6] a7 a8 l h) rfl
theorem wic8 {a0 a1 a2 a3 a4 a5 a6 a7 : Option Value} {x : Int32} (h : am_nl a7 = true) : WP X k (.iinc 8 (1) :: r) (a0 :: a1 :: a2 :: a3 :: a4 :: a5 :: a6 :: a7 :: some (.int x) :: l) st G Q ↔ WP X k r (a0 :: a1 :: a2 :: a3 :: a4 :: a5 :: a6 :: a7 :: some (.int (x + am_ci (1))) :: l) st G Q := wp_iinc rfl (am_ok1_app [a0, a1, a2, a3, a4, a5, a6] a7 (some (.int x)) l h) rfl
theorem wil9 {a0 a1 a2 a3 a4 a5 a6 a7 a8 : Option Value} {x : Int32} : WP X k (.iload 9 :: r) (a0 :: a1 :: a2 :: a3 :: a4 :: a5 :: a6 :: a7 :: a8 :: some (.int x) :: l) st G Q ↔ WP X k r (a0 :: a1 :: a2 :: a3 :: a4 :: a5 :: a6 :: a7 :: a8 :: some (.int x) :: l) (.int x :: st) G Q := wp_iload rfl
theorem wis9 {a0 a1 a2 a3 a4 a5 a6 a7 a8 a9 : Option Value} {x : Int32} (h : am_nl a8 = true) : WP X k (.istore 9 :: r) (a0 :: a1 :: a2 :: a3 :: a4 :: a5 :: a6 :: a7 :: a8 :: a9 :: l) (.int x :: st) G Q ↔ WP X k r (a0 :: a1 :: a2 :: a3 :: a4 :: a5 :: a6 :: a7 :: a8 :: some (.int x) :: l) st G Q := wp_istore (am_ok1_app [a0, a1, a2, a3, a4, a5, a6, a7] a8 a9 l h) rfl
theorem wic9 {a0 a1 a2 a3 a4 a5 a6 a7 a8 : Option Value} {x : Int32} (h : am_nl a8 = true) : WP X k (.iinc 9 (1) :: r) (a0 :: a1 :: a2 :: a3 :: a4 :: a5 :: a6 :: a7 :: a8 :: some (.int x) :: l) st G Q ↔ WP X k r (a0 :: a1 :: a2 :: a3 :: a4 :: a5 :: a6 :: a7 :: a8 :: some (.int (x + am_ci (1))) :: l) st G Q := wp_iinc rfl (am_ok1_app [a0, a1, a2, a3, a4, a5, a6, a7] a8 (some (.int x)) l h) rfl
theorem wil10 {a0 a1 a2 a3 a4 a5 a6 a7 a8 a9 : Option Value} {x : Int32} : WP X k (.iload 10 :: r) (a0 :: a1 :: a2 :: a3 :: a4 :: a5 :: a6 :: a7 :: a8 :: a9 :: some (.int x) :: l) st G Q ↔ WP X k r (a0 :: a1 :: a2 :: a3 :: a4 :: a5 :: a6 :: a7 :: a8 :: a9 :: some (.int x) :: l) (.int x :: st) G Q := wp_iload rfl
theorem wis10 {a0 a1 a2 a3 a4 a5 a6 a7 a8 a9 a10 : Option Value} {x : Int32} (h : am_nl a9 = true) : WP X k (.istore 10 :: r) (a0 :: a1 :: a2 :: a3 :: a4 :: a5 :: a6 :: a7 :: a8 :: a9 :: a10 :: l) (.int x :: st) G Q ↔ WP X k r (a0 :: a1 :: a2 :: a3 :: a4 :: a5 :: a6 :: a7 :: a8 :: a9 :: some (.int x) :: l) st G Q := wp_istore (am_ok1_app [a0, a1, a2, a3, a4, a5, a6, a7, a8] a9 a10 l h) rfl
theorem wic10 {a0 a1 a2 a3 a4 a5 a6 a7 a8 a9 : Option Value} {x : Int32} (h : am_nl a9 = true) : WP X k (.iinc 10 (1) :: r) (a0 :: a1 :: a2 :: a3 :: a4 :: a5 :: a6 :: a7 :: a8 :: a9 :: some (.int x) :: l) st G Q ↔ WP X k r (a0 :: a1 :: a2 :: a3 :: a4 :: a5 :: a6 :: a7 :: a8 :: a9 :: some (.int (x + am_ci (1))) :: l) st G Q := wp_iinc rfl (am_ok1_app [a0, a1, a2, a3, a4, a5, a6, a7, a8] a9 (some (.int x)) l h) rfl
end WPS
theorem am_gfs : (∀ G : GG, am_gf G 0 128 = some (.ref 1)) ∧
  (∀ G : GG, am_gf G 0 129 = some (.ref 12)) ∧
  (∀ G : GG, am_gf G 0 130 = some (.ref 23)) ∧
  (∀ G : GG, am_gf G 0 131 = some (.ref 45)) ∧
  (∀ G : GG, am_gf G 0 132 = some (.ref 48)) ∧
  (∀ G : GG, am_gf G 0 133 = some (.ref 57)) ∧
  (∀ G : GG, am_gf G 0 134 = some (.int (G 0 6))) ∧
  (∀ G : GG, am_gf G 45 64 = some (.ref 46)) ∧
  (∀ G : GG, am_gf G 45 65 = some (.ref 34)) ∧
  (∀ G : GG, am_gf G 45 66 = some (.int (G 45 2))) ∧
  (∀ G : GG, am_gf G 45 67 = some (.int (G 45 3))) ∧
  (∀ G : GG, am_gf G 46 32 = some (.ref 47)) ∧
  (∀ G : GG, am_gf G 46 33 = some (.int (G 46 1))) ∧
  (∀ G : GG, am_gf G 46 34 = some (.int (G 46 2))) ∧
  (∀ G : GG, am_gf G 46 35 = some (.int (G 46 3))) ∧
  (∀ G : GG, am_gf G 46 36 = some (.int (G 46 4))) ∧
  (∀ G : GG, am_gf G 46 37 = some (.int (G 46 5))) ∧
  (∀ G : GG, am_gf G 58 160 = some (.ref 59)) ∧
  (∀ G : GG, am_gf G 58 161 = some (.ref 60)) ∧
  (∀ G : GG, am_gf G 58 162 = some (.ref 61)) ∧
  (∀ G : GG, am_gf G 58 163 = some (.int (G 58 3))) ∧
  (∀ G : GG, am_gf G 58 164 = some (.ref 62)) ∧
  (∀ G : GG, am_gf G 58 165 = some (.ref 63)) ∧
  (∀ G : GG, am_gf G 58 166 = some (.ref 64)) ∧
  (∀ G : GG, am_gf G 58 167 = some (.int (G 58 7))) ∧
  (∀ G : GG, am_gf G 58 168 = some (.ref 65)) ∧
  (∀ G : GG, am_gf G 58 169 = some (.int (G 58 9))) ∧
  (∀ G : GG, am_gf G 58 170 = some (.int (G 58 10))) ∧
  (∀ G : GG, am_gf G 58 171 = some (.int (G 58 11))) ∧
  (∀ G : GG, am_gf G 58 172 = some (.int (G 58 12))) ∧
  (∀ G : GG, am_gf G 58 173 = some (.int (G 58 13))) ∧
  (∀ G : GG, am_gf G 58 174 = some (.int (G 58 14))) ∧
  (∀ G : GG, am_gf G 58 175 = some (.ref 71)) ∧
  (∀ G : GG, am_gf G 58 176 = some (.ref 66)) ∧
  (∀ G : GG, am_gf G 58 177 = some (.int (G 58 17))) ∧
  (∀ G : GG, am_gf G 58 178 = some (.int (G 58 18))) ∧
  (∀ G : GG, am_gf G 58 179 = some (.ref 67)) ∧
  (∀ G : GG, am_gf G 58 180 = some (.ref 68)) ∧
  (∀ G : GG, am_gf G 58 181 = some (.ref 69)) ∧
  (∀ G : GG, am_gf G 58 182 = some (.ref 70)) :=
  ⟨fun _ => rfl, fun _ => rfl, fun _ => rfl, fun _ => rfl, fun _ => rfl, fun _ => rfl, fun _ => rfl, fun _ => rfl, fun _ => rfl, fun _ => rfl, fun _ => rfl, fun _ => rfl, fun _ => rfl, fun _ => rfl, fun _ => rfl, fun _ => rfl, fun _ => rfl, fun _ => rfl, fun _ => rfl, fun _ => rfl, fun _ => rfl, fun _ => rfl, fun _ => rfl, fun _ => rfl, fun _ => rfl, fun _ => rfl, fun _ => rfl, fun _ => rfl, fun _ => rfl, fun _ => rfl, fun _ => rfl, fun _ => rfl, fun _ => rfl, fun _ => rfl, fun _ => rfl, fun _ => rfl, fun _ => rfl, fun _ => rfl, fun _ => rfl, fun _ => rfl⟩
theorem am_pfs : (∀ (G : GG) (x : Int32), (x = nI 0 ∨ x = nI 1) → am_pf G 0 134 x = some (gset G 0 (upd (G 0) 6 x))) ∧
  (∀ (G : GG) (x : Int32), am_pf G 45 66 x = some (gset G 45 (upd (G 45) 2 x))) ∧
  (∀ (G : GG) (x : Int32), am_pf G 45 67 x = some (gset G 45 (upd (G 45) 3 x))) ∧
  (∀ (G : GG) (x : Int32), am_pf G 46 33 x = some (gset G 46 (upd (G 46) 1 x))) ∧
  (∀ (G : GG) (x : Int32), am_pf G 46 34 x = some (gset G 46 (upd (G 46) 2 x))) ∧
  (∀ (G : GG) (x : Int32), am_pf G 46 35 x = some (gset G 46 (upd (G 46) 3 x))) ∧
  (∀ (G : GG) (x : Int32), am_pf G 46 36 x = some (gset G 46 (upd (G 46) 4 x))) ∧
  (∀ (G : GG) (x : Int32), am_pf G 46 37 x = some (gset G 46 (upd (G 46) 5 x))) ∧
  (∀ (G : GG) (x : Int32), (x = nI 0 ∨ x = nI 1) → am_pf G 58 163 x = some (gset G 58 (upd (G 58) 3 x))) ∧
  (∀ (G : GG) (x : Int32), am_pf G 58 167 x = some (gset G 58 (upd (G 58) 7 x))) ∧
  (∀ (G : GG) (x : Int32), am_pf G 58 169 x = some (gset G 58 (upd (G 58) 9 x))) ∧
  (∀ (G : GG) (x : Int32), am_pf G 58 170 x = some (gset G 58 (upd (G 58) 10 x))) ∧
  (∀ (G : GG) (x : Int32), am_pf G 58 171 x = some (gset G 58 (upd (G 58) 11 x))) ∧
  (∀ (G : GG) (x : Int32), am_pf G 58 172 x = some (gset G 58 (upd (G 58) 12 x))) ∧
  (∀ (G : GG) (x : Int32), am_pf G 58 173 x = some (gset G 58 (upd (G 58) 13 x))) ∧
  (∀ (G : GG) (x : Int32), (x = nI 0 ∨ x = nI 1) → am_pf G 58 174 x = some (gset G 58 (upd (G 58) 14 x))) ∧
  (∀ (G : GG) (x : Int32), am_pf G 58 177 x = some (gset G 58 (upd (G 58) 17 x))) ∧
  (∀ (G : GG) (x : Int32), am_pf G 58 178 x = some (gset G 58 (upd (G 58) 18 x))) :=
  ⟨fun _ _ h => if_pos (fun _ => h), fun _ _ => rfl, fun _ _ => rfl, fun _ _ => rfl, fun _ _ => rfl, fun _ _ => rfl, fun _ _ => rfl, fun _ _ => rfl, fun _ _ h => if_pos (fun _ => h), fun _ _ => rfl, fun _ _ => rfl, fun _ _ => rfl, fun _ _ => rfl, fun _ _ => rfl, fun _ _ => rfl, fun _ _ h => if_pos (fun _ => h), fun _ _ => rfl, fun _ _ => rfl⟩
theorem am_ald_of {X : AmX} {G : GG} {o n i : Nat} (h : am_sh o = [0, n]) (hn : n < 2 ^ 31) (hi : i < n) : am_ald X G o (nI i) = some (G o i) := by
  have hc : (nI i).toNatClampNeg = i := nI_clamp (by omega)
  unfold am_ald
  rw [h]
  simp only [hc]
  rw [if_neg]
  rintro (z | z)
  · exact nI_pos (by omega) z
  · omega
theorem am_ast_of {G : GG} {o n i : Nat} {x : Int32} (h : am_sh o = [0, n]) (hn : n < 2 ^ 31) (hi : i < n) : am_ast G o (nI i) x = some (gset G o (upd (G o) i x)) := by
  have hc : (nI i).toNatClampNeg = i := nI_clamp (by omega)
  unfold am_ast
  rw [h]
  simp only [hc]
  rw [if_neg]
  rintro (z | z)
  · exact nI_pos (by omega) z
  · omega
theorem am_len_of {X : AmX} {o n : Nat} (h : am_sh o = [0, n]) : am_len X o = some n := by unfold am_len; rw [h]; rfl
theorem am_cpy_of {G : GG} {o1 o2 n1 n2 sp dp n : Nat} (h1 : am_sh o1 = [0, n1]) (h2 : am_sh o2 = [0, n2]) (b1 : n1 < 2 ^ 31) (b2 : n2 < 2 ^ 31) (e1 : sp + n ≤ n1) (e2 : dp + n ≤ n2) : am_cpy G o1 (nI sp) o2 (nI dp) (nI n) = some (gset G o2 (va_cpy (G o1) (G o2) sp dp n)) := by
  have c1 : (nI sp).toNatClampNeg = sp := nI_clamp (by omega)
  have c2 : (nI dp).toNatClampNeg = dp := nI_clamp (by omega)
  have c3 : (nI n).toNatClampNeg = n := nI_clamp (by omega)
  unfold am_cpy
  rw [h1, h2]
  simp only [c1, c2, c3]
  rw [if_pos ⟨nI_pos (by omega), nI_pos (by omega), nI_pos (by omega), e1, e2⟩]
theorem am_alds : (∀ (X : AmX) (G : GG) (i : Nat), i < 120 → am_ald X G 47 (nI i) = some (G 47 i)) ∧
  (∀ (X : AmX) (G : GG) (i : Nat), i < 7 → am_ald X G 57 (nI i) = some (G 57 i)) ∧
  (∀ (X : AmX) (G : GG) (i : Nat), i < 61 → am_ald X G 59 (nI i) = some (G 59 i)) ∧
  (∀ (X : AmX) (G : GG) (i : Nat), i < 61 → am_ald X G 60 (nI i) = some (G 60 i)) ∧
  (∀ (X : AmX) (G : GG) (i : Nat), i < 61 → am_ald X G 61 (nI i) = some (G 61 i)) ∧
  (∀ (X : AmX) (G : GG) (i : Nat), i < 8 → am_ald X G 62 (nI i) = some (G 62 i)) ∧
  (∀ (X : AmX) (G : GG) (i : Nat), i < 8 → am_ald X G 63 (nI i) = some (G 63 i)) ∧
  (∀ (X : AmX) (G : GG) (i : Nat), i < 8 → am_ald X G 64 (nI i) = some (G 64 i)) ∧
  (∀ (X : AmX) (G : GG) (i : Nat), i < 120 → am_ald X G 65 (nI i) = some (G 65 i)) ∧
  (∀ (X : AmX) (G : GG) (i : Nat), i < 480 → am_ald X G 66 (nI i) = some (G 66 i)) ∧
  (∀ (X : AmX) (G : GG) (i : Nat), i < 4 → am_ald X G 67 (nI i) = some (G 67 i)) ∧
  (∀ (X : AmX) (G : GG) (i : Nat), i < 4 → am_ald X G 68 (nI i) = some (G 68 i)) ∧
  (∀ (X : AmX) (G : GG) (i : Nat), i < 160 → am_ald X G 69 (nI i) = some (G 69 i)) ∧
  (∀ (X : AmX) (G : GG) (i : Nat), i < 40 → am_ald X G 70 (nI i) = some (G 70 i)) :=
  ⟨fun _ _ _ h => am_ald_of rfl (by decide) h, fun _ _ _ h => am_ald_of rfl (by decide) h, fun _ _ _ h => am_ald_of rfl (by decide) h, fun _ _ _ h => am_ald_of rfl (by decide) h, fun _ _ _ h => am_ald_of rfl (by decide) h, fun _ _ _ h => am_ald_of rfl (by decide) h, fun _ _ _ h => am_ald_of rfl (by decide) h, fun _ _ _ h => am_ald_of rfl (by decide) h, fun _ _ _ h => am_ald_of rfl (by decide) h, fun _ _ _ h => am_ald_of rfl (by decide) h, fun _ _ _ h => am_ald_of rfl (by decide) h, fun _ _ _ h => am_ald_of rfl (by decide) h, fun _ _ _ h => am_ald_of rfl (by decide) h, fun _ _ _ h => am_ald_of rfl (by decide) h⟩
theorem am_asts : (∀ (G : GG) (i : Nat) (x : Int32), i < 120 → am_ast G 47 (nI i) x = some (gset G 47 (upd (G 47) i x))) ∧
  (∀ (G : GG) (i : Nat) (x : Int32), i < 7 → am_ast G 57 (nI i) x = some (gset G 57 (upd (G 57) i x))) ∧
  (∀ (G : GG) (i : Nat) (x : Int32), i < 61 → am_ast G 59 (nI i) x = some (gset G 59 (upd (G 59) i x))) ∧
  (∀ (G : GG) (i : Nat) (x : Int32), i < 61 → am_ast G 60 (nI i) x = some (gset G 60 (upd (G 60) i x))) ∧
  (∀ (G : GG) (i : Nat) (x : Int32), i < 61 → am_ast G 61 (nI i) x = some (gset G 61 (upd (G 61) i x))) ∧
  (∀ (G : GG) (i : Nat) (x : Int32), i < 8 → am_ast G 62 (nI i) x = some (gset G 62 (upd (G 62) i x))) ∧
  (∀ (G : GG) (i : Nat) (x : Int32), i < 8 → am_ast G 63 (nI i) x = some (gset G 63 (upd (G 63) i x))) ∧
  (∀ (G : GG) (i : Nat) (x : Int32), i < 8 → am_ast G 64 (nI i) x = some (gset G 64 (upd (G 64) i x))) ∧
  (∀ (G : GG) (i : Nat) (x : Int32), i < 120 → am_ast G 65 (nI i) x = some (gset G 65 (upd (G 65) i x))) ∧
  (∀ (G : GG) (i : Nat) (x : Int32), i < 480 → am_ast G 66 (nI i) x = some (gset G 66 (upd (G 66) i x))) ∧
  (∀ (G : GG) (i : Nat) (x : Int32), i < 4 → am_ast G 67 (nI i) x = some (gset G 67 (upd (G 67) i x))) ∧
  (∀ (G : GG) (i : Nat) (x : Int32), i < 4 → am_ast G 68 (nI i) x = some (gset G 68 (upd (G 68) i x))) ∧
  (∀ (G : GG) (i : Nat) (x : Int32), i < 160 → am_ast G 69 (nI i) x = some (gset G 69 (upd (G 69) i x))) ∧
  (∀ (G : GG) (i : Nat) (x : Int32), i < 40 → am_ast G 70 (nI i) x = some (gset G 70 (upd (G 70) i x))) :=
  ⟨fun _ _ _ h => am_ast_of rfl (by decide) h, fun _ _ _ h => am_ast_of rfl (by decide) h, fun _ _ _ h => am_ast_of rfl (by decide) h, fun _ _ _ h => am_ast_of rfl (by decide) h, fun _ _ _ h => am_ast_of rfl (by decide) h, fun _ _ _ h => am_ast_of rfl (by decide) h, fun _ _ _ h => am_ast_of rfl (by decide) h, fun _ _ _ h => am_ast_of rfl (by decide) h, fun _ _ _ h => am_ast_of rfl (by decide) h, fun _ _ _ h => am_ast_of rfl (by decide) h, fun _ _ _ h => am_ast_of rfl (by decide) h, fun _ _ _ h => am_ast_of rfl (by decide) h, fun _ _ _ h => am_ast_of rfl (by decide) h, fun _ _ _ h => am_ast_of rfl (by decide) h⟩
theorem am_lens : (∀ X : AmX, am_len X 47 = some 120) ∧
  (∀ X : AmX, am_len X 57 = some 7) ∧
  (∀ X : AmX, am_len X 59 = some 61) ∧
  (∀ X : AmX, am_len X 60 = some 61) ∧
  (∀ X : AmX, am_len X 61 = some 61) ∧
  (∀ X : AmX, am_len X 62 = some 8) ∧
  (∀ X : AmX, am_len X 63 = some 8) ∧
  (∀ X : AmX, am_len X 64 = some 8) ∧
  (∀ X : AmX, am_len X 65 = some 120) ∧
  (∀ X : AmX, am_len X 66 = some 480) ∧
  (∀ X : AmX, am_len X 67 = some 4) ∧
  (∀ X : AmX, am_len X 68 = some 4) ∧
  (∀ X : AmX, am_len X 69 = some 160) ∧
  (∀ X : AmX, am_len X 70 = some 40) :=
  ⟨fun _ => am_len_of rfl, fun _ => am_len_of rfl, fun _ => am_len_of rfl, fun _ => am_len_of rfl, fun _ => am_len_of rfl, fun _ => am_len_of rfl, fun _ => am_len_of rfl, fun _ => am_len_of rfl, fun _ => am_len_of rfl, fun _ => am_len_of rfl, fun _ => am_len_of rfl, fun _ => am_len_of rfl, fun _ => am_len_of rfl, fun _ => am_len_of rfl⟩
def TB (b : Nat) : Prop := b = 1 ∨ b = 12 ∨ b = 23 ∨ b = 34
theorem tb1 : TB 1 := by simp [TB]
theorem tb12 : TB 12 := by simp [TB]
theorem tb23 : TB 23 := by simp [TB]
theorem tb34 : TB 34 := by simp [TB]
theorem am_gft {b : Nat} (h : TB b) : (∀ G : GG, am_gf G b 96 = some (.ref (b + 1))) ∧
  (∀ G : GG, am_gf G b 97 = some (.ref (b + 2))) ∧
  (∀ G : GG, am_gf G b 98 = some (.ref (b + 3))) ∧
  (∀ G : GG, am_gf G b 99 = some (.ref (b + 4))) ∧
  (∀ G : GG, am_gf G b 100 = some (.ref (b + 5))) ∧
  (∀ G : GG, am_gf G b 101 = some (.ref (b + 6))) ∧
  (∀ G : GG, am_gf G b 102 = some (.ref (b + 7))) ∧
  (∀ G : GG, am_gf G b 103 = some (.int (G b 7))) ∧
  (∀ G : GG, am_gf G b 104 = some (.int (G b 8))) ∧
  (∀ G : GG, am_gf G b 105 = some (.int (G b 9))) ∧
  (∀ G : GG, am_gf G b 106 = some (.ref (b + 8))) ∧
  (∀ G : GG, am_gf G b 107 = some (.ref (b + 9))) ∧
  (∀ G : GG, am_gf G b 108 = some (.ref (b + 10))) := by
  rcases h with rfl | rfl | rfl | rfl <;> exact ⟨fun _ => rfl, fun _ => rfl, fun _ => rfl, fun _ => rfl, fun _ => rfl, fun _ => rfl, fun _ => rfl, fun _ => rfl, fun _ => rfl, fun _ => rfl, fun _ => rfl, fun _ => rfl, fun _ => rfl⟩
theorem tgf0 {b : Nat} {G : GG} (h : TB b) : am_gf G b 96 = some (.ref (b + 1)) := (am_gft h).1 G
theorem tgf1 {b : Nat} {G : GG} (h : TB b) : am_gf G b 97 = some (.ref (b + 2)) := (am_gft h).2.1 G
theorem tgf2 {b : Nat} {G : GG} (h : TB b) : am_gf G b 98 = some (.ref (b + 3)) := (am_gft h).2.2.1 G
theorem tgf3 {b : Nat} {G : GG} (h : TB b) : am_gf G b 99 = some (.ref (b + 4)) := (am_gft h).2.2.2.1 G
theorem tgf4 {b : Nat} {G : GG} (h : TB b) : am_gf G b 100 = some (.ref (b + 5)) := (am_gft h).2.2.2.2.1 G
theorem tgf5 {b : Nat} {G : GG} (h : TB b) : am_gf G b 101 = some (.ref (b + 6)) := (am_gft h).2.2.2.2.2.1 G
theorem tgf6 {b : Nat} {G : GG} (h : TB b) : am_gf G b 102 = some (.ref (b + 7)) := (am_gft h).2.2.2.2.2.2.1 G
theorem tgf7 {b : Nat} {G : GG} (h : TB b) : am_gf G b 103 = some (.int (G b 7)) := (am_gft h).2.2.2.2.2.2.2.1 G
theorem tgf8 {b : Nat} {G : GG} (h : TB b) : am_gf G b 104 = some (.int (G b 8)) := (am_gft h).2.2.2.2.2.2.2.2.1 G
theorem tgf9 {b : Nat} {G : GG} (h : TB b) : am_gf G b 105 = some (.int (G b 9)) := (am_gft h).2.2.2.2.2.2.2.2.2.1 G
theorem tgf10 {b : Nat} {G : GG} (h : TB b) : am_gf G b 106 = some (.ref (b + 8)) := (am_gft h).2.2.2.2.2.2.2.2.2.2.1 G
theorem tgf11 {b : Nat} {G : GG} (h : TB b) : am_gf G b 107 = some (.ref (b + 9)) := (am_gft h).2.2.2.2.2.2.2.2.2.2.2.1 G
theorem tgf12 {b : Nat} {G : GG} (h : TB b) : am_gf G b 108 = some (.ref (b + 10)) := (am_gft h).2.2.2.2.2.2.2.2.2.2.2.2 G
theorem tpf7 {b : Nat} {G : GG} {x : Int32} (h : TB b) : am_pf G b 103 x = some (gset G b (upd (G b) 7 x)) := by rcases h with rfl | rfl | rfl | rfl <;> rfl
theorem tpf8 {b : Nat} {G : GG} {x : Int32} (h : TB b) : am_pf G b 104 x = some (gset G b (upd (G b) 8 x)) := by rcases h with rfl | rfl | rfl | rfl <;> rfl
theorem tpf9 {b : Nat} {G : GG} {x : Int32} (h : TB b) : am_pf G b 105 x = some (gset G b (upd (G b) 9 x)) := by rcases h with rfl | rfl | rfl | rfl <;> rfl
theorem tsh0 {b : Nat} (h : TB b) : am_sh (b + 1) = [0, 8] := by rcases h with rfl | rfl | rfl | rfl <;> rfl
theorem tal0 {b : Nat} {X : AmX} {G : GG} {i : Nat} (h : TB b) (hi : i < 8) : am_ald X G (b + 1) (nI i) = some (G (b + 1) i) := am_ald_of (tsh0 h) (by decide) hi
theorem tas0 {b : Nat} {G : GG} {i : Nat} {x : Int32} (h : TB b) (hi : i < 8) : am_ast G (b + 1) (nI i) x = some (gset G (b + 1) (upd (G (b + 1)) i x)) := am_ast_of (tsh0 h) (by decide) hi
theorem tln0 {b : Nat} {X : AmX} (h : TB b) : am_len X (b + 1) = some 8 := am_len_of (tsh0 h)
theorem tsh1 {b : Nat} (h : TB b) : am_sh (b + 2) = [0, 8] := by rcases h with rfl | rfl | rfl | rfl <;> rfl
theorem tal1 {b : Nat} {X : AmX} {G : GG} {i : Nat} (h : TB b) (hi : i < 8) : am_ald X G (b + 2) (nI i) = some (G (b + 2) i) := am_ald_of (tsh1 h) (by decide) hi
theorem tas1 {b : Nat} {G : GG} {i : Nat} {x : Int32} (h : TB b) (hi : i < 8) : am_ast G (b + 2) (nI i) x = some (gset G (b + 2) (upd (G (b + 2)) i x)) := am_ast_of (tsh1 h) (by decide) hi
theorem tln1 {b : Nat} {X : AmX} (h : TB b) : am_len X (b + 2) = some 8 := am_len_of (tsh1 h)
theorem tsh2 {b : Nat} (h : TB b) : am_sh (b + 3) = [0, 8] := by rcases h with rfl | rfl | rfl | rfl <;> rfl
theorem tal2 {b : Nat} {X : AmX} {G : GG} {i : Nat} (h : TB b) (hi : i < 8) : am_ald X G (b + 3) (nI i) = some (G (b + 3) i) := am_ald_of (tsh2 h) (by decide) hi
theorem tas2 {b : Nat} {G : GG} {i : Nat} {x : Int32} (h : TB b) (hi : i < 8) : am_ast G (b + 3) (nI i) x = some (gset G (b + 3) (upd (G (b + 3)) i x)) := am_ast_of (tsh2 h) (by decide) hi
theorem tln2 {b : Nat} {X : AmX} (h : TB b) : am_len X (b + 3) = some 8 := am_len_of (tsh2 h)
theorem tsh3 {b : Nat} (h : TB b) : am_sh (b + 4) = [0, 8] := by rcases h with rfl | rfl | rfl | rfl <;> rfl
theorem tal3 {b : Nat} {X : AmX} {G : GG} {i : Nat} (h : TB b) (hi : i < 8) : am_ald X G (b + 4) (nI i) = some (G (b + 4) i) := am_ald_of (tsh3 h) (by decide) hi
theorem tas3 {b : Nat} {G : GG} {i : Nat} {x : Int32} (h : TB b) (hi : i < 8) : am_ast G (b + 4) (nI i) x = some (gset G (b + 4) (upd (G (b + 4)) i x)) := am_ast_of (tsh3 h) (by decide) hi
theorem tln3 {b : Nat} {X : AmX} (h : TB b) : am_len X (b + 4) = some 8 := am_len_of (tsh3 h)
theorem tsh4 {b : Nat} (h : TB b) : am_sh (b + 5) = [0, 8] := by rcases h with rfl | rfl | rfl | rfl <;> rfl
theorem tal4 {b : Nat} {X : AmX} {G : GG} {i : Nat} (h : TB b) (hi : i < 8) : am_ald X G (b + 5) (nI i) = some (G (b + 5) i) := am_ald_of (tsh4 h) (by decide) hi
theorem tas4 {b : Nat} {G : GG} {i : Nat} {x : Int32} (h : TB b) (hi : i < 8) : am_ast G (b + 5) (nI i) x = some (gset G (b + 5) (upd (G (b + 5)) i x)) := am_ast_of (tsh4 h) (by decide) hi
theorem tln4 {b : Nat} {X : AmX} (h : TB b) : am_len X (b + 5) = some 8 := am_len_of (tsh4 h)
theorem tsh5 {b : Nat} (h : TB b) : am_sh (b + 6) = [0, 8] := by rcases h with rfl | rfl | rfl | rfl <;> rfl
theorem tal5 {b : Nat} {X : AmX} {G : GG} {i : Nat} (h : TB b) (hi : i < 8) : am_ald X G (b + 6) (nI i) = some (G (b + 6) i) := am_ald_of (tsh5 h) (by decide) hi
theorem tas5 {b : Nat} {G : GG} {i : Nat} {x : Int32} (h : TB b) (hi : i < 8) : am_ast G (b + 6) (nI i) x = some (gset G (b + 6) (upd (G (b + 6)) i x)) := am_ast_of (tsh5 h) (by decide) hi
theorem tln5 {b : Nat} {X : AmX} (h : TB b) : am_len X (b + 6) = some 8 := am_len_of (tsh5 h)
theorem tsh6 {b : Nat} (h : TB b) : am_sh (b + 7) = [0, 10] := by rcases h with rfl | rfl | rfl | rfl <;> rfl
theorem tal6 {b : Nat} {X : AmX} {G : GG} {i : Nat} (h : TB b) (hi : i < 10) : am_ald X G (b + 7) (nI i) = some (G (b + 7) i) := am_ald_of (tsh6 h) (by decide) hi
theorem tas6 {b : Nat} {G : GG} {i : Nat} {x : Int32} (h : TB b) (hi : i < 10) : am_ast G (b + 7) (nI i) x = some (gset G (b + 7) (upd (G (b + 7)) i x)) := am_ast_of (tsh6 h) (by decide) hi
theorem tln6 {b : Nat} {X : AmX} (h : TB b) : am_len X (b + 7) = some 10 := am_len_of (tsh6 h)
theorem tsh7 {b : Nat} (h : TB b) : am_sh (b + 8) = [0, 8] := by rcases h with rfl | rfl | rfl | rfl <;> rfl
theorem tal7 {b : Nat} {X : AmX} {G : GG} {i : Nat} (h : TB b) (hi : i < 8) : am_ald X G (b + 8) (nI i) = some (G (b + 8) i) := am_ald_of (tsh7 h) (by decide) hi
theorem tas7 {b : Nat} {G : GG} {i : Nat} {x : Int32} (h : TB b) (hi : i < 8) : am_ast G (b + 8) (nI i) x = some (gset G (b + 8) (upd (G (b + 8)) i x)) := am_ast_of (tsh7 h) (by decide) hi
theorem tln7 {b : Nat} {X : AmX} (h : TB b) : am_len X (b + 8) = some 8 := am_len_of (tsh7 h)
theorem tsh8 {b : Nat} (h : TB b) : am_sh (b + 9) = [0, 8] := by rcases h with rfl | rfl | rfl | rfl <;> rfl
theorem tal8 {b : Nat} {X : AmX} {G : GG} {i : Nat} (h : TB b) (hi : i < 8) : am_ald X G (b + 9) (nI i) = some (G (b + 9) i) := am_ald_of (tsh8 h) (by decide) hi
theorem tas8 {b : Nat} {G : GG} {i : Nat} {x : Int32} (h : TB b) (hi : i < 8) : am_ast G (b + 9) (nI i) x = some (gset G (b + 9) (upd (G (b + 9)) i x)) := am_ast_of (tsh8 h) (by decide) hi
theorem tln8 {b : Nat} {X : AmX} (h : TB b) : am_len X (b + 9) = some 8 := am_len_of (tsh8 h)
theorem tsh9 {b : Nat} (h : TB b) : am_sh (b + 10) = [0, 8] := by rcases h with rfl | rfl | rfl | rfl <;> rfl
theorem tal9 {b : Nat} {X : AmX} {G : GG} {i : Nat} (h : TB b) (hi : i < 8) : am_ald X G (b + 10) (nI i) = some (G (b + 10) i) := am_ald_of (tsh9 h) (by decide) hi
theorem tas9 {b : Nat} {G : GG} {i : Nat} {x : Int32} (h : TB b) (hi : i < 8) : am_ast G (b + 10) (nI i) x = some (gset G (b + 10) (upd (G (b + 10)) i x)) := am_ast_of (tsh9 h) (by decide) hi
theorem tln9 {b : Nat} {X : AmX} (h : TB b) : am_len X (b + 10) = some 8 := am_len_of (tsh9 h)
theorem tcls {b : Nat} (h : TB b) : am_clsof b = 3 := by rcases h with rfl | rfl | rfl | rfl <;> rfl
theorem TB.lt {b : Nat} (h : TB b) : b < 500 := by rcases h with rfl | rfl | rfl | rfl <;> decide
def SB (b : Nat) : Prop := b = 49 ∨ b = 51 ∨ b = 53 ∨ b = 55
theorem sb49 : SB 49 := by simp [SB]
theorem sb51 : SB 51 := by simp [SB]
theorem sb53 : SB 53 := by simp [SB]
theorem sb55 : SB 55 := by simp [SB]
theorem SB.of {s : Nat} (h : s < 4) : SB (49 + 2 * s) := by unfold SB; omega
theorem SB.lt {b : Nat} (h : SB b) : b < 500 := by rcases h with rfl | rfl | rfl | rfl <;> decide
theorem scls {b : Nat} (h : SB b) : am_clsof b = 0 := by rcases h with rfl | rfl | rfl | rfl <;> rfl
theorem sgf0 {b : Nat} {G : GG} (h : SB b) : am_gf G b 0 = some (.ref (b + 1)) := by rcases h with rfl | rfl | rfl | rfl <;> rfl
theorem sgf1 {b : Nat} {G : GG} (h : SB b) : am_gf G b 1 = some (.int (G b 1)) := by rcases h with rfl | rfl | rfl | rfl <;> rfl
theorem sgf2 {b : Nat} {G : GG} (h : SB b) : am_gf G b 2 = some (.int (G b 2)) := by rcases h with rfl | rfl | rfl | rfl <;> rfl
theorem spf1 {b : Nat} {G : GG} {x : Int32} (h : SB b) : am_pf G b 1 x = some (gset G b (upd (G b) 1 x)) := by rcases h with rfl | rfl | rfl | rfl <;> rfl
theorem spf2 {b : Nat} {G : GG} {x : Int32} (h : SB b) : am_pf G b 2 x = some (gset G b (upd (G b) 2 x)) := by rcases h with rfl | rfl | rfl | rfl <;> rfl
theorem ssh {b : Nat} (h : SB b) : am_sh (b + 1) = [0, 40] := by rcases h with rfl | rfl | rfl | rfl <;> rfl
theorem sal {b : Nat} {X : AmX} {G : GG} {i : Nat} (h : SB b) (hi : i < 40) : am_ald X G (b + 1) (nI i) = some (G (b + 1) i) := am_ald_of (ssh h) (by decide) hi
theorem sas {b : Nat} {G : GG} {i : Nat} {x : Int32} (h : SB b) (hi : i < 40) : am_ast G (b + 1) (nI i) x = some (gset G (b + 1) (upd (G (b + 1)) i x)) := am_ast_of (ssh h) (by decide) hi
theorem sln {b : Nat} {X : AmX} (h : SB b) : am_len X (b + 1) = some 40 := am_len_of (ssh h)
theorem am_qld48 {s : Nat} (h : s < 4) : am_qld 48 (nI s) = some (49 + 2 * s) := by
  rcases (by omega : s = 0 ∨ s = 1 ∨ s = 2 ∨ s = 3) with rfl | rfl | rfl | rfl <;> rfl
theorem am_qld71 {s : Nat} (h : s < 7) : am_qld 71 (nI s) = some (100 + s) := by
  rcases (by omega : s = 0 ∨ s = 1 ∨ s = 2 ∨ s = 3 ∨ s = 4 ∨ s = 5 ∨ s = 6) with rfl | rfl | rfl | rfl | rfl | rfl | rfl <;> rfl
theorem am_len71 {X : AmX} : am_len X 71 = some 7 := rfl
theorem am_ald300 {X : AmX} {G : GG} {i : Nat} (h : i < 7) : am_ald X G 300 (nI i) = some (tt_above i) := by
  rcases (by omega : i = 0 ∨ i = 1 ∨ i = 2 ∨ i = 3 ∨ i = 4 ∨ i = 5 ∨ i = 6) with rfl | rfl | rfl | rfl | rfl | rfl | rfl <;> rfl
end
section
/-! ===== the blocks of each method as rules: printed by program ===== -/
theorem bh0_5 : am_blk 0 5 = am_B0_5 := rfl
theorem bs0 : am_blk 0 0 = am_B0_0 ∧ am_blk 0 (Int.toNat 5) = am_blk 0 5 ∧ am_blk 0 (Int.toNat 20) = am_B0_20 := ⟨rfl, rfl, rfl⟩
theorem bs1 : am_blk 1 0 = am_B1_0 ∧ am_blk 1 (Int.toNat 9) = am_B1_9 ∧ am_blk 1 (Int.toNat 10) = am_B1_10 := ⟨rfl, rfl, rfl⟩
theorem bs2 : am_blk 2 0 = am_B2_0 ∧ am_blk 2 (Int.toNat 9) = am_B2_9 ∧ am_blk 2 (Int.toNat 10) = am_B2_10 := ⟨rfl, rfl, rfl⟩
theorem bs3 : am_blk 3 0 = am_B3_0 ∧ am_blk 3 (Int.toNat 9) = am_B3_9 ∧ am_blk 3 (Int.toNat 10) = am_B3_10 := ⟨rfl, rfl, rfl⟩
theorem bs4 : am_blk 4 0 = am_B4_0 := rfl
theorem bs5 : am_blk 5 0 = am_B5_0 := rfl
theorem bs6 : am_blk 6 0 = am_B6_0 ∧ am_blk 6 (Int.toNat 13) = am_B6_13 ∧ am_blk 6 (Int.toNat 14) = am_B6_14 := ⟨rfl, rfl, rfl⟩
theorem bs7 : am_blk 7 0 = am_B7_0 := rfl
theorem bs8 : am_blk 8 0 = am_B8_0 ∧ am_blk 8 (Int.toNat 17) = am_B8_17 ∧ am_blk 8 (Int.toNat 18) = am_B8_18 := ⟨rfl, rfl, rfl⟩
theorem bs9 : am_blk 9 0 = am_B9_0 := rfl
theorem bs10 : am_blk 10 0 = am_B10_0 := rfl
theorem bs11 : am_blk 11 0 = am_B11_0 ∧ am_blk 11 (Int.toNat 16) = am_B11_16 := ⟨rfl, rfl⟩
theorem bs12 : am_blk 12 0 = am_B12_0 ∧ am_blk 12 (Int.toNat 18) = am_B12_18 ∧ am_blk 12 (Int.toNat 25) = am_B12_25 := ⟨rfl, rfl, rfl⟩
theorem bs13 : am_blk 13 0 = am_B13_0 ∧ am_blk 13 (Int.toNat 14) = am_B13_14 ∧ am_blk 13 (Int.toNat 15) = am_B13_15 := ⟨rfl, rfl, rfl⟩
theorem bs14 : am_blk 14 0 = am_B14_0 ∧ am_blk 14 (Int.toNat 14) = am_B14_14 ∧ am_blk 14 (Int.toNat 15) = am_B14_15 := ⟨rfl, rfl, rfl⟩
theorem bs15 : am_blk 15 0 = am_B15_0 ∧ am_blk 15 (Int.toNat 25) = am_B15_25 := ⟨rfl, rfl⟩
theorem bs16 : am_blk 16 0 = am_B16_0 ∧ am_blk 16 (Int.toNat 26) = am_B16_26 ∧ am_blk 16 (Int.toNat 32) = am_B16_32 := ⟨rfl, rfl, rfl⟩
theorem bs17 : am_blk 17 0 = am_B17_0 := rfl
theorem bs18 : am_blk 18 0 = am_B18_0 ∧ am_blk 18 (Int.toNat 14) = am_B18_14 ∧ am_blk 18 (Int.toNat 15) = am_B18_15 := ⟨rfl, rfl, rfl⟩
theorem bs19 : am_blk 19 0 = am_B19_0 := rfl
theorem bs20 : am_blk 20 0 = am_B20_0 := rfl
theorem bs21 : am_blk 21 0 = am_B21_0 := rfl
theorem bs22 : am_blk 22 0 = am_B22_0 ∧ am_blk 22 (Int.toNat 16) = am_B22_16 ∧ am_blk 22 (Int.toNat 23) = am_B22_23 ∧ am_blk 22 (Int.toNat 37) = am_B22_37 ∧ am_blk 22 (Int.toNat 60) = am_B22_60 ∧ am_blk 22 (Int.toNat 68) = am_B22_68 := ⟨rfl, rfl, rfl, rfl, rfl, rfl⟩
theorem bh23_18 : am_blk 23 18 = am_B23_18 := rfl
theorem bh23_61 : am_blk 23 61 = am_B23_61 := rfl
theorem bs23 : am_blk 23 0 = am_B23_0 ∧ am_blk 23 (Int.toNat 18) = am_blk 23 18 ∧ am_blk 23 (Int.toNat 53) = am_B23_53 ∧ am_blk 23 (Int.toNat 59) = am_B23_59 ∧ am_blk 23 (Int.toNat 61) = am_blk 23 61 ∧ am_blk 23 (Int.toNat 99) = am_B23_99 ∧ am_blk 23 (Int.toNat 105) = am_B23_105 := ⟨rfl, rfl, rfl, rfl, rfl, rfl, rfl⟩
theorem bh24_55 : am_blk 24 55 = am_B24_55 := rfl
theorem bs24 : am_blk 24 0 = am_B24_0 ∧ am_blk 24 (Int.toNat 16) = am_B24_16 ∧ am_blk 24 (Int.toNat 55) = am_blk 24 55 ∧ am_blk 24 (Int.toNat 85) = am_B24_85 ∧ am_blk 24 (Int.toNat 91) = am_B24_91 := ⟨rfl, rfl, rfl, rfl, rfl⟩
theorem bs25 : am_blk 25 0 = am_B25_0 ∧ am_blk 25 (Int.toNat 14) = am_B25_14 ∧ am_blk 25 (Int.toNat 15) = am_B25_15 ∧ am_blk 25 (Int.toNat 30) = am_B25_30 ∧ am_blk 25 (Int.toNat 31) = am_B25_31 ∧ am_blk 25 (Int.toNat 53) = am_B25_53 ∧ am_blk 25 (Int.toNat 54) = am_B25_54 ∧ am_blk 25 (Int.toNat 70) = am_B25_70 ∧ am_blk 25 (Int.toNat 71) = am_B25_71 ∧ am_blk 25 (Int.toNat 111) = am_B25_111 ∧ am_blk 25 (Int.toNat 112) = am_B25_112 ∧ am_blk 25 (Int.toNat 160) = am_B25_160 ∧ am_blk 25 (Int.toNat 163) = am_B25_163 ∧ am_blk 25 (Int.toNat 169) = am_B25_169 ∧ am_blk 25 (Int.toNat 180) = am_B25_180 ∧ am_blk 25 (Int.toNat 197) = am_B25_197 ∧ am_blk 25 (Int.toNat 205) = am_B25_205 ∧ am_blk 25 (Int.toNat 206) = am_B25_206 ∧ am_blk 25 (Int.toNat 207) = am_B25_207 ∧ am_blk 25 (Int.toNat 216) = am_B25_216 ∧ am_blk 25 (Int.toNat 217) = am_B25_217 ∧ am_blk 25 (Int.toNat 218) = am_B25_218 := ⟨rfl, rfl, rfl, rfl, rfl, rfl, rfl, rfl, rfl, rfl, rfl, rfl, rfl, rfl, rfl, rfl, rfl, rfl, rfl, rfl, rfl, rfl⟩
theorem bh26_4 : am_blk 26 4 = am_B26_4 := rfl
theorem bs26 : am_blk 26 0 = am_B26_0 ∧ am_blk 26 (Int.toNat 4) = am_blk 26 4 ∧ am_blk 26 (Int.toNat 29) = am_B26_29 ∧ am_blk 26 (Int.toNat 30) = am_B26_30 ∧ am_blk 26 (Int.toNat 38) = am_B26_38 := ⟨rfl, rfl, rfl, rfl, rfl⟩
theorem bh27_4 : am_blk 27 4 = am_B27_4 := rfl
theorem bs27 : am_blk 27 0 = am_B27_0 ∧ am_blk 27 (Int.toNat 4) = am_blk 27 4 ∧ am_blk 27 (Int.toNat 29) = am_B27_29 ∧ am_blk 27 (Int.toNat 30) = am_B27_30 ∧ am_blk 27 (Int.toNat 38) = am_B27_38 := ⟨rfl, rfl, rfl, rfl, rfl⟩
theorem bs28 : am_blk 28 0 = am_B28_0 ∧ am_blk 28 (Int.toNat 16) = am_B28_16 ∧ am_blk 28 (Int.toNat 23) = am_B28_23 ∧ am_blk 28 (Int.toNat 43) = am_B28_43 ∧ am_blk 28 (Int.toNat 56) = am_B28_56 ∧ am_blk 28 (Int.toNat 61) = am_B28_61 := ⟨rfl, rfl, rfl, rfl, rfl, rfl⟩
theorem bh29_2 : am_blk 29 2 = am_B29_2 := rfl
theorem bh29_43 : am_blk 29 43 = am_B29_43 := rfl
theorem bs29 : am_blk 29 0 = am_B29_0 ∧ am_blk 29 (Int.toNat 2) = am_blk 29 2 ∧ am_blk 29 (Int.toNat 29) = am_B29_29 ∧ am_blk 29 (Int.toNat 34) = am_B29_34 ∧ am_blk 29 (Int.toNat 41) = am_B29_41 ∧ am_blk 29 (Int.toNat 43) = am_blk 29 43 ∧ am_blk 29 (Int.toNat 70) = am_B29_70 ∧ am_blk 29 (Int.toNat 98) = am_B29_98 ∧ am_blk 29 (Int.toNat 105) = am_B29_105 := ⟨rfl, rfl, rfl, rfl, rfl, rfl, rfl, rfl, rfl⟩
theorem bh30_17 : am_blk 30 17 = am_B30_17 := rfl
theorem bs30 : am_blk 30 0 = am_B30_0 ∧ am_blk 30 (Int.toNat 17) = am_blk 30 17 ∧ am_blk 30 (Int.toNat 56) = am_B30_56 ∧ am_blk 30 (Int.toNat 62) = am_B30_62 := ⟨rfl, rfl, rfl, rfl⟩
theorem bs31 : am_blk 31 0 = am_B31_0 := rfl
theorem bs32 : am_blk 32 0 = am_B32_0 := rfl
theorem bs33 : am_blk 33 0 = am_B33_0 ∧ am_blk 33 (Int.toNat 21) = am_B33_21 ∧ am_blk 33 (Int.toNat 22) = am_B33_22 ∧ am_blk 33 (Int.toNat 68) = am_B33_68 ∧ am_blk 33 (Int.toNat 84) = am_B33_84 ∧ am_blk 33 (Int.toNat 85) = am_B33_85 ∧ am_blk 33 (Int.toNat 86) = am_B33_86 ∧ am_blk 33 (Int.toNat 94) = am_B33_94 ∧ am_blk 33 (Int.toNat 106) = am_B33_106 ∧ am_blk 33 (Int.toNat 118) = am_B33_118 ∧ am_blk 33 (Int.toNat 127) = am_B33_127 ∧ am_blk 33 (Int.toNat 128) = am_B33_128 ∧ am_blk 33 (Int.toNat 129) = am_B33_129 ∧ am_blk 33 (Int.toNat 150) = am_B33_150 ∧ am_blk 33 (Int.toNat 151) = am_B33_151 ∧ am_blk 33 (Int.toNat 152) = am_B33_152 := ⟨rfl, rfl, rfl, rfl, rfl, rfl, rfl, rfl, rfl, rfl, rfl, rfl, rfl, rfl, rfl, rfl⟩
theorem bs34 : am_blk 34 0 = am_B34_0 := rfl
theorem bh35_4 : am_blk 35 4 = am_B35_4 := rfl
theorem bs35 : am_blk 35 0 = am_B35_0 ∧ am_blk 35 (Int.toNat 4) = am_blk 35 4 ∧ am_blk 35 (Int.toNat 39) = am_B35_39 ∧ am_blk 35 (Int.toNat 40) = am_B35_40 ∧ am_blk 35 (Int.toNat 48) = am_B35_48 := ⟨rfl, rfl, rfl, rfl, rfl⟩
theorem bh36_4 : am_blk 36 4 = am_B36_4 := rfl
theorem bs36 : am_blk 36 0 = am_B36_0 ∧ am_blk 36 (Int.toNat 4) = am_blk 36 4 ∧ am_blk 36 (Int.toNat 20) = am_B36_20 := ⟨rfl, rfl, rfl⟩
theorem bs37 : am_blk 37 0 = am_B37_0 ∧ am_blk 37 (Int.toNat 37) = am_B37_37 ∧ am_blk 37 (Int.toNat 38) = am_B37_38 ∧ am_blk 37 (Int.toNat 63) = am_B37_63 ∧ am_blk 37 (Int.toNat 64) = am_B37_64 := ⟨rfl, rfl, rfl, rfl, rfl⟩
theorem bs38 : am_blk 38 0 = am_B38_0 ∧ am_blk 38 (Int.toNat 24) = am_B38_24 ∧ am_blk 38 (Int.toNat 25) = am_B38_25 := ⟨rfl, rfl, rfl⟩
theorem bh39_4 : am_blk 39 4 = am_B39_4 := rfl
theorem bs39 : am_blk 39 0 = am_B39_0 ∧ am_blk 39 (Int.toNat 4) = am_blk 39 4 ∧ am_blk 39 (Int.toNat 31) = am_B39_31 ∧ am_blk 39 (Int.toNat 32) = am_B39_32 ∧ am_blk 39 (Int.toNat 40) = am_B39_40 := ⟨rfl, rfl, rfl, rfl, rfl⟩
theorem bs40 : am_blk 40 0 = am_B40_0 ∧ am_blk 40 (Int.toNat 14) = am_B40_14 ∧ am_blk 40 (Int.toNat 21) = am_B40_21 ∧ am_blk 40 (Int.toNat 45) = am_B40_45 ∧ am_blk 40 (Int.toNat 46) = am_B40_46 := ⟨rfl, rfl, rfl, rfl, rfl⟩
theorem bs41 : am_blk 41 0 = am_B41_0 := rfl
theorem bs42 : am_blk 42 0 = am_B42_0 ∧ am_blk 42 (Int.toNat 13) = am_B42_13 := ⟨rfl, rfl⟩
theorem bs43 : am_blk 43 0 = am_B43_0 ∧ am_blk 43 (Int.toNat 14) = am_B43_14 ∧ am_blk 43 (Int.toNat 21) = am_B43_21 ∧ am_blk 43 (Int.toNat 41) = am_B43_41 ∧ am_blk 43 (Int.toNat 49) = am_B43_49 := ⟨rfl, rfl, rfl, rfl, rfl⟩
theorem bs44 : am_blk 44 0 = am_B44_0 := rfl
theorem bs45 : am_blk 45 0 = am_B45_0 := rfl
theorem bs46 : am_blk 46 0 = am_B46_0 ∧ am_blk 46 (Int.toNat 18) = am_B46_18 ∧ am_blk 46 (Int.toNat 25) = am_B46_25 ∧ am_blk 46 (Int.toNat 40) = am_B46_40 ∧ am_blk 46 (Int.toNat 62) = am_B46_62 ∧ am_blk 46 (Int.toNat 77) = am_B46_77 ∧ am_blk 46 (Int.toNat 92) = am_B46_92 ∧ am_blk 46 (Int.toNat 93) = am_B46_93 := ⟨rfl, rfl, rfl, rfl, rfl, rfl, rfl, rfl⟩
theorem bs47 : am_blk 47 0 = am_B47_0 := rfl
theorem bs48 : am_blk 48 0 = am_B48_0 ∧ am_blk 48 (Int.toNat 32) = am_B48_32 ∧ am_blk 48 (Int.toNat 39) = am_B48_39 ∧ am_blk 48 (Int.toNat 46) = am_B48_46 ∧ am_blk 48 (Int.toNat 53) = am_B48_53 ∧ am_blk 48 (Int.toNat 60) = am_B48_60 := ⟨rfl, rfl, rfl, rfl, rfl, rfl⟩
theorem bs49 : am_blk 49 0 = am_B49_0 ∧ am_blk 49 (Int.toNat 32) = am_B49_32 ∧ am_blk 49 (Int.toNat 33) = am_B49_33 := ⟨rfl, rfl, rfl⟩
theorem bs50 : am_blk 50 0 = am_B50_0 ∧ am_blk 50 (Int.toNat 10) = am_B50_10 ∧ am_blk 50 (Int.toNat 11) = am_B50_11 := ⟨rfl, rfl, rfl⟩
theorem bh51_8 : am_blk 51 8 = am_B51_8 := rfl
theorem bs51 : am_blk 51 0 = am_B51_0 ∧ am_blk 51 (Int.toNat 8) = am_blk 51 8 ∧ am_blk 51 (Int.toNat 47) = am_B51_47 ∧ am_blk 51 (Int.toNat 53) = am_B51_53 := ⟨rfl, rfl, rfl, rfl⟩
theorem bs52 : am_blk 52 0 = am_B52_0 ∧ am_blk 52 (Int.toNat 18) = am_B52_18 ∧ am_blk 52 (Int.toNat 25) = am_B52_25 ∧ am_blk 52 (Int.toNat 56) = am_B52_56 ∧ am_blk 52 (Int.toNat 63) = am_B52_63 ∧ am_blk 52 (Int.toNat 70) = am_B52_70 ∧ am_blk 52 (Int.toNat 82) = am_B52_82 ∧ am_blk 52 (Int.toNat 83) = am_B52_83 ∧ am_blk 52 (Int.toNat 84) = am_B52_84 := ⟨rfl, rfl, rfl, rfl, rfl, rfl, rfl, rfl, rfl⟩
theorem bs53 : am_blk 53 0 = am_B53_0 := rfl
theorem bh54_4 : am_blk 54 4 = am_B54_4 := rfl
theorem bs54 : am_blk 54 0 = am_B54_0 ∧ am_blk 54 (Int.toNat 4) = am_blk 54 4 ∧ am_blk 54 (Int.toNat 53) = am_B54_53 ∧ am_blk 54 (Int.toNat 57) = am_B54_57 ∧ am_blk 54 (Int.toNat 58) = am_B54_58 ∧ am_blk 54 (Int.toNat 65) = am_B54_65 := ⟨rfl, rfl, rfl, rfl, rfl, rfl⟩
theorem bs55 : am_blk 55 0 = am_B55_0 ∧ am_blk 55 (Int.toNat 21) = am_B55_21 ∧ am_blk 55 (Int.toNat 28) = am_B55_28 := ⟨rfl, rfl, rfl⟩
theorem bs56 : am_blk 56 0 = am_B56_0 ∧ am_blk 56 (Int.toNat 36) = am_B56_36 ∧ am_blk 56 (Int.toNat 41) = am_B56_41 ∧ am_blk 56 (Int.toNat 46) = am_B56_46 ∧ am_blk 56 (Int.toNat 54) = am_B56_54 ∧ am_blk 56 (Int.toNat 77) = am_B56_77 ∧ am_blk 56 (Int.toNat 78) = am_B56_78 ∧ am_blk 56 (Int.toNat 79) = am_B56_79 ∧ am_blk 56 (Int.toNat 87) = am_B56_87 := ⟨rfl, rfl, rfl, rfl, rfl, rfl, rfl, rfl, rfl⟩
theorem bs57 : am_blk 57 0 = am_B57_0 ∧ am_blk 57 (Int.toNat 32) = am_B57_32 ∧ am_blk 57 (Int.toNat 42) = am_B57_42 ∧ am_blk 57 (Int.toNat 52) = am_B57_52 ∧ am_blk 57 (Int.toNat 62) = am_B57_62 ∧ am_blk 57 (Int.toNat 72) = am_B57_72 ∧ am_blk 57 (Int.toNat 79) = am_B57_79 := ⟨rfl, rfl, rfl, rfl, rfl, rfl, rfl⟩
theorem bs58 : am_blk 58 0 = am_B58_0 ∧ am_blk 58 (Int.toNat 31) = am_B58_31 ∧ am_blk 58 (Int.toNat 37) = am_B58_37 := ⟨rfl, rfl, rfl⟩
theorem bs59 : am_blk 59 0 = am_B59_0 ∧ am_blk 59 (Int.toNat 36) = am_B59_36 ∧ am_blk 59 (Int.toNat 41) = am_B59_41 ∧ am_blk 59 (Int.toNat 46) = am_B59_46 ∧ am_blk 59 (Int.toNat 64) = am_B59_64 ∧ am_blk 59 (Int.toNat 68) = am_B59_68 ∧ am_blk 59 (Int.toNat 69) = am_B59_69 ∧ am_blk 59 (Int.toNat 70) = am_B59_70 ∧ am_blk 59 (Int.toNat 78) = am_B59_78 := ⟨rfl, rfl, rfl, rfl, rfl, rfl, rfl, rfl, rfl⟩
theorem bs60 : am_blk 60 0 = am_B60_0 ∧ am_blk 60 (Int.toNat 15) = am_B60_15 ∧ am_blk 60 (Int.toNat 22) = am_B60_22 ∧ am_blk 60 (Int.toNat 41) = am_B60_41 := ⟨rfl, rfl, rfl, rfl⟩
theorem bs61 : am_blk 61 0 = am_B61_0 ∧ am_blk 61 (Int.toNat 24) = am_B61_24 ∧ am_blk 61 (Int.toNat 25) = am_B61_25 := ⟨rfl, rfl, rfl⟩
theorem bs62 : am_blk 62 0 = am_B62_0 ∧ am_blk 62 (Int.toNat 20) = am_B62_20 ∧ am_blk 62 (Int.toNat 21) = am_B62_21 := ⟨rfl, rfl, rfl⟩
theorem bs63 : am_blk 63 0 = am_B63_0 ∧ am_blk 63 (Int.toNat 15) = am_B63_15 ∧ am_blk 63 (Int.toNat 22) = am_B63_22 ∧ am_blk 63 (Int.toNat 40) = am_B63_40 ∧ am_blk 63 (Int.toNat 46) = am_B63_46 := ⟨rfl, rfl, rfl, rfl, rfl⟩
theorem bs64 : am_blk 64 0 = am_B64_0 ∧ am_blk 64 (Int.toNat 15) = am_B64_15 ∧ am_blk 64 (Int.toNat 22) = am_B64_22 ∧ am_blk 64 (Int.toNat 41) = am_B64_41 := ⟨rfl, rfl, rfl, rfl⟩
theorem bs65 : am_blk 65 0 = am_B65_0 ∧ am_blk 65 (Int.toNat 15) = am_B65_15 ∧ am_blk 65 (Int.toNat 22) = am_B65_22 ∧ am_blk 65 (Int.toNat 40) = am_B65_40 ∧ am_blk 65 (Int.toNat 46) = am_B65_46 := ⟨rfl, rfl, rfl, rfl, rfl⟩
theorem bs66 : am_blk 66 0 = am_B66_0 ∧ am_blk 66 (Int.toNat 17) = am_B66_17 ∧ am_blk 66 (Int.toNat 38) = am_B66_38 := ⟨rfl, rfl, rfl⟩
theorem bh67_2 : am_blk 67 2 = am_B67_2 := rfl
theorem bh67_13 : am_blk 67 13 = am_B67_13 := rfl
theorem bh67_52 : am_blk 67 52 = am_B67_52 := rfl
theorem bs67 : am_blk 67 0 = am_B67_0 ∧ am_blk 67 (Int.toNat 2) = am_blk 67 2 ∧ am_blk 67 (Int.toNat 13) = am_blk 67 13 ∧ am_blk 67 (Int.toNat 50) = am_B67_50 ∧ am_blk 67 (Int.toNat 52) = am_blk 67 52 ∧ am_blk 67 (Int.toNat 93) = am_B67_93 ∧ am_blk 67 (Int.toNat 99) = am_B67_99 ∧ am_blk 67 (Int.toNat 120) = am_B67_120 := ⟨rfl, rfl, rfl, rfl, rfl, rfl, rfl, rfl⟩
theorem bh68_4 : am_blk 68 4 = am_B68_4 := rfl
theorem bs68 : am_blk 68 0 = am_B68_0 ∧ am_blk 68 (Int.toNat 4) = am_blk 68 4 ∧ am_blk 68 (Int.toNat 27) = am_B68_27 := ⟨rfl, rfl, rfl⟩
theorem bs69 : am_blk 69 0 = am_B69_0 ∧ am_blk 69 (Int.toNat 17) = am_B69_17 ∧ am_blk 69 (Int.toNat 37) = am_B69_37 := ⟨rfl, rfl, rfl⟩
theorem bh70_2 : am_blk 70 2 = am_B70_2 := rfl
theorem bs70 : am_blk 70 0 = am_B70_0 ∧ am_blk 70 (Int.toNat 2) = am_blk 70 2 ∧ am_blk 70 (Int.toNat 17) = am_B70_17 := ⟨rfl, rfl, rfl⟩
theorem bh71_6 : am_blk 71 6 = am_B71_6 := rfl
theorem bs71 : am_blk 71 0 = am_B71_0 ∧ am_blk 71 (Int.toNat 6) = am_blk 71 6 ∧ am_blk 71 (Int.toNat 73) = am_B71_73 ∧ am_blk 71 (Int.toNat 77) = am_B71_77 ∧ am_blk 71 (Int.toNat 78) = am_B71_78 ∧ am_blk 71 (Int.toNat 101) = am_B71_101 ∧ am_blk 71 (Int.toNat 107) = am_B71_107 ∧ am_blk 71 (Int.toNat 114) = am_B71_114 := ⟨rfl, rfl, rfl, rfl, rfl, rfl, rfl, rfl⟩
theorem bh72_4 : am_blk 72 4 = am_B72_4 := rfl
theorem bs72 : am_blk 72 0 = am_B72_0 ∧ am_blk 72 (Int.toNat 4) = am_blk 72 4 ∧ am_blk 72 (Int.toNat 29) = am_B72_29 := ⟨rfl, rfl, rfl⟩
theorem bs73 : am_blk 73 0 = am_B73_0 ∧ am_blk 73 (Int.toNat 16) = am_B73_16 ∧ am_blk 73 (Int.toNat 60) = am_B73_60 ∧ am_blk 73 (Int.toNat 68) = am_B73_68 ∧ am_blk 73 (Int.toNat 76) = am_B73_76 ∧ am_blk 73 (Int.toNat 84) = am_B73_84 ∧ am_blk 73 (Int.toNat 92) = am_B73_92 ∧ am_blk 73 (Int.toNat 100) = am_B73_100 := ⟨rfl, rfl, rfl, rfl, rfl, rfl, rfl, rfl⟩
theorem bh74_4 : am_blk 74 4 = am_B74_4 := rfl
theorem bs74 : am_blk 74 0 = am_B74_0 ∧ am_blk 74 (Int.toNat 4) = am_blk 74 4 ∧ am_blk 74 (Int.toNat 27) = am_B74_27 ∧ am_blk 74 (Int.toNat 28) = am_B74_28 ∧ am_blk 74 (Int.toNat 36) = am_B74_36 := ⟨rfl, rfl, rfl, rfl, rfl⟩
theorem bh75_4 : am_blk 75 4 = am_B75_4 := rfl
theorem bs75 : am_blk 75 0 = am_B75_0 ∧ am_blk 75 (Int.toNat 4) = am_blk 75 4 ∧ am_blk 75 (Int.toNat 26) = am_B75_26 ∧ am_blk 75 (Int.toNat 27) = am_B75_27 ∧ am_blk 75 (Int.toNat 35) = am_B75_35 := ⟨rfl, rfl, rfl, rfl, rfl⟩
theorem bh76_4 : am_blk 76 4 = am_B76_4 := rfl
theorem bs76 : am_blk 76 0 = am_B76_0 ∧ am_blk 76 (Int.toNat 4) = am_blk 76 4 ∧ am_blk 76 (Int.toNat 34) = am_B76_34 ∧ am_blk 76 (Int.toNat 35) = am_B76_35 ∧ am_blk 76 (Int.toNat 43) = am_B76_43 := ⟨rfl, rfl, rfl, rfl, rfl⟩
theorem bh77_4 : am_blk 77 4 = am_B77_4 := rfl
theorem bs77 : am_blk 77 0 = am_B77_0 ∧ am_blk 77 (Int.toNat 4) = am_blk 77 4 ∧ am_blk 77 (Int.toNat 32) = am_B77_32 ∧ am_blk 77 (Int.toNat 34) = am_B77_34 ∧ am_blk 77 (Int.toNat 40) = am_B77_40 := ⟨rfl, rfl, rfl, rfl, rfl⟩
theorem bs78 : am_blk 78 0 = am_B78_0 ∧ am_blk 78 (Int.toNat 40) = am_B78_40 ∧ am_blk 78 (Int.toNat 47) = am_B78_47 ∧ am_blk 78 (Int.toNat 52) = am_B78_52 ∧ am_blk 78 (Int.toNat 57) = am_B78_57 ∧ am_blk 78 (Int.toNat 62) = am_B78_62 ∧ am_blk 78 (Int.toNat 67) = am_B78_67 ∧ am_blk 78 (Int.toNat 72) = am_B78_72 := ⟨rfl, rfl, rfl, rfl, rfl, rfl, rfl, rfl⟩
theorem bh79_8 : am_blk 79 8 = am_B79_8 := rfl
theorem bs79 : am_blk 79 0 = am_B79_0 ∧ am_blk 79 (Int.toNat 8) = am_blk 79 8 ∧ am_blk 79 (Int.toNat 33) = am_B79_33 ∧ am_blk 79 (Int.toNat 34) = am_B79_34 ∧ am_blk 79 (Int.toNat 42) = am_B79_42 := ⟨rfl, rfl, rfl, rfl, rfl⟩
theorem bh80_8 : am_blk 80 8 = am_B80_8 := rfl
theorem bs80 : am_blk 80 0 = am_B80_0 ∧ am_blk 80 (Int.toNat 8) = am_blk 80 8 ∧ am_blk 80 (Int.toNat 35) = am_B80_35 := ⟨rfl, rfl, rfl⟩
theorem bh81_8 : am_blk 81 8 = am_B81_8 := rfl
theorem bs81 : am_blk 81 0 = am_B81_0 ∧ am_blk 81 (Int.toNat 8) = am_blk 81 8 ∧ am_blk 81 (Int.toNat 40) = am_B81_40 ∧ am_blk 81 (Int.toNat 41) = am_B81_41 ∧ am_blk 81 (Int.toNat 49) = am_B81_49 := ⟨rfl, rfl, rfl, rfl, rfl⟩
theorem bh82_4 : am_blk 82 4 = am_B82_4 := rfl
theorem bs82 : am_blk 82 0 = am_B82_0 ∧ am_blk 82 (Int.toNat 4) = am_blk 82 4 ∧ am_blk 82 (Int.toNat 33) = am_B82_33 ∧ am_blk 82 (Int.toNat 37) = am_B82_37 ∧ am_blk 82 (Int.toNat 38) = am_B82_38 ∧ am_blk 82 (Int.toNat 45) = am_B82_45 := ⟨rfl, rfl, rfl, rfl, rfl, rfl⟩
theorem bs83 : am_blk 83 0 = am_B83_0 ∧ am_blk 83 (Int.toNat 18) = am_B83_18 ∧ am_blk 83 (Int.toNat 25) = am_B83_25 := ⟨rfl, rfl, rfl⟩
theorem bs84 : am_blk 84 0 = am_B84_0 := rfl
theorem bs85 : am_blk 85 0 = am_B85_0 ∧ am_blk 85 (Int.toNat 28) = am_B85_28 ∧ am_blk 85 (Int.toNat 34) = am_B85_34 := ⟨rfl, rfl, rfl⟩
theorem bs86 : am_blk 86 0 = am_B86_0 := rfl
theorem bs87 : am_blk 87 0 = am_B87_0 := rfl
theorem bh88_2 : am_blk 88 2 = am_B88_2 := rfl
theorem bs88 : am_blk 88 0 = am_B88_0 ∧ am_blk 88 (Int.toNat 2) = am_blk 88 2 ∧ am_blk 88 (Int.toNat 20) = am_B88_20 := ⟨rfl, rfl, rfl⟩
theorem bs89 : am_blk 89 0 = am_B89_0 := rfl
theorem bs90 : am_blk 90 0 = am_B90_0 ∧ am_blk 90 (Int.toNat 18) = am_B90_18 ∧ am_blk 90 (Int.toNat 25) = am_B90_25 := ⟨rfl, rfl, rfl⟩
theorem bs91 : am_blk 91 0 = am_B91_0 ∧ am_blk 91 (Int.toNat 28) = am_B91_28 ∧ am_blk 91 (Int.toNat 34) = am_B91_34 := ⟨rfl, rfl, rfl⟩
theorem bh92_13 : am_blk 92 13 = am_B92_13 := rfl
theorem bs92 : am_blk 92 0 = am_B92_0 ∧ am_blk 92 (Int.toNat 13) = am_blk 92 13 ∧ am_blk 92 (Int.toNat 38) = am_B92_38 ∧ am_blk 92 (Int.toNat 52) = am_B92_52 := ⟨rfl, rfl, rfl, rfl⟩
theorem bh93_13 : am_blk 93 13 = am_B93_13 := rfl
theorem bs93 : am_blk 93 0 = am_B93_0 ∧ am_blk 93 (Int.toNat 13) = am_blk 93 13 ∧ am_blk 93 (Int.toNat 36) = am_B93_36 ∧ am_blk 93 (Int.toNat 49) = am_B93_49 ∧ am_blk 93 (Int.toNat 50) = am_B93_50 := ⟨rfl, rfl, rfl, rfl, rfl⟩
theorem bs94 : am_blk 94 0 = am_B94_0 ∧ am_blk 94 (Int.toNat 13) = am_B94_13 ∧ am_blk 94 (Int.toNat 14) = am_B94_14 := ⟨rfl, rfl, rfl⟩
theorem bh95_13 : am_blk 95 13 = am_B95_13 := rfl
theorem bs95 : am_blk 95 0 = am_B95_0 ∧ am_blk 95 (Int.toNat 13) = am_blk 95 13 ∧ am_blk 95 (Int.toNat 43) = am_B95_43 ∧ am_blk 95 (Int.toNat 49) = am_B95_49 := ⟨rfl, rfl, rfl, rfl⟩
theorem bh96_2 : am_blk 96 2 = am_B96_2 := rfl
theorem bs96 : am_blk 96 0 = am_B96_0 ∧ am_blk 96 (Int.toNat 2) = am_blk 96 2 ∧ am_blk 96 (Int.toNat 27) = am_B96_27 ∧ am_blk 96 (Int.toNat 33) = am_B96_33 := ⟨rfl, rfl, rfl, rfl⟩
theorem bh97_17 : am_blk 97 17 = am_B97_17 := rfl
theorem bs97 : am_blk 97 0 = am_B97_0 ∧ am_blk 97 (Int.toNat 17) = am_blk 97 17 ∧ am_blk 97 (Int.toNat 40) = am_B97_40 ∧ am_blk 97 (Int.toNat 53) = am_B97_53 ∧ am_blk 97 (Int.toNat 54) = am_B97_54 := ⟨rfl, rfl, rfl, rfl, rfl⟩
theorem bh98_4 : am_blk 98 4 = am_B98_4 := rfl
theorem bs98 : am_blk 98 0 = am_B98_0 ∧ am_blk 98 (Int.toNat 4) = am_blk 98 4 ∧ am_blk 98 (Int.toNat 45) = am_B98_45 ∧ am_blk 98 (Int.toNat 46) = am_B98_46 ∧ am_blk 98 (Int.toNat 53) = am_B98_53 := ⟨rfl, rfl, rfl, rfl, rfl⟩
theorem bh99_41 : am_blk 99 41 = am_B99_41 := rfl
theorem bs99 : am_blk 99 0 = am_B99_0 ∧ am_blk 99 (Int.toNat 21) = am_B99_21 ∧ am_blk 99 (Int.toNat 28) = am_B99_28 ∧ am_blk 99 (Int.toNat 41) = am_blk 99 41 ∧ am_blk 99 (Int.toNat 77) = am_B99_77 ∧ am_blk 99 (Int.toNat 91) = am_B99_91 := ⟨rfl, rfl, rfl, rfl, rfl, rfl⟩
theorem bh100_41 : am_blk 100 41 = am_B100_41 := rfl
theorem bs100 : am_blk 100 0 = am_B100_0 ∧ am_blk 100 (Int.toNat 21) = am_B100_21 ∧ am_blk 100 (Int.toNat 28) = am_B100_28 ∧ am_blk 100 (Int.toNat 41) = am_blk 100 41 ∧ am_blk 100 (Int.toNat 66) = am_B100_66 ∧ am_blk 100 (Int.toNat 81) = am_B100_81 ∧ am_blk 100 (Int.toNat 82) = am_B100_82 := ⟨rfl, rfl, rfl, rfl, rfl, rfl, rfl⟩
theorem bs101 : am_blk 101 0 = am_B101_0 ∧ am_blk 101 (Int.toNat 23) = am_B101_23 ∧ am_blk 101 (Int.toNat 24) = am_B101_24 := ⟨rfl, rfl, rfl⟩
theorem bh102_54 : am_blk 102 54 = am_B102_54 := rfl
theorem bs102 : am_blk 102 0 = am_B102_0 ∧ am_blk 102 (Int.toNat 26) = am_B102_26 ∧ am_blk 102 (Int.toNat 33) = am_B102_33 ∧ am_blk 102 (Int.toNat 54) = am_blk 102 54 ∧ am_blk 102 (Int.toNat 106) = am_B102_106 ∧ am_blk 102 (Int.toNat 115) = am_B102_115 ∧ am_blk 102 (Int.toNat 117) = am_B102_117 := ⟨rfl, rfl, rfl, rfl, rfl, rfl, rfl⟩
theorem bh103_54 : am_blk 103 54 = am_B103_54 := rfl
theorem bs103 : am_blk 103 0 = am_B103_0 ∧ am_blk 103 (Int.toNat 26) = am_B103_26 ∧ am_blk 103 (Int.toNat 33) = am_B103_33 ∧ am_blk 103 (Int.toNat 54) = am_blk 103 54 ∧ am_blk 103 (Int.toNat 102) = am_B103_102 ∧ am_blk 103 (Int.toNat 112) = am_B103_112 ∧ am_blk 103 (Int.toNat 114) = am_B103_114 := ⟨rfl, rfl, rfl, rfl, rfl, rfl, rfl⟩
theorem bs104 : am_blk 104 0 = am_B104_0 := rfl
theorem bh105_34 : am_blk 105 34 = am_B105_34 := rfl
theorem bs105 : am_blk 105 0 = am_B105_0 ∧ am_blk 105 (Int.toNat 18) = am_B105_18 ∧ am_blk 105 (Int.toNat 25) = am_B105_25 ∧ am_blk 105 (Int.toNat 34) = am_blk 105 34 ∧ am_blk 105 (Int.toNat 58) = am_B105_58 ∧ am_blk 105 (Int.toNat 117) = am_B105_117 ∧ am_blk 105 (Int.toNat 123) = am_B105_123 := ⟨rfl, rfl, rfl, rfl, rfl, rfl, rfl⟩
theorem bs106 : am_blk 106 0 = am_B106_0 ∧ am_blk 106 (Int.toNat 22) = am_B106_22 ∧ am_blk 106 (Int.toNat 28) = am_B106_28 := ⟨rfl, rfl, rfl⟩
theorem bs107 : am_blk 107 0 = am_B107_0 ∧ am_blk 107 (Int.toNat 22) = am_B107_22 ∧ am_blk 107 (Int.toNat 23) = am_B107_23 := ⟨rfl, rfl, rfl⟩
theorem bh108_17 : am_blk 108 17 = am_B108_17 := rfl
theorem bs108 : am_blk 108 0 = am_B108_0 ∧ am_blk 108 (Int.toNat 17) = am_blk 108 17 ∧ am_blk 108 (Int.toNat 51) = am_B108_51 ∧ am_blk 108 (Int.toNat 62) = am_B108_62 ∧ am_blk 108 (Int.toNat 76) = am_B108_76 ∧ am_blk 108 (Int.toNat 78) = am_B108_78 ∧ am_blk 108 (Int.toNat 95) = am_B108_95 := ⟨rfl, rfl, rfl, rfl, rfl, rfl, rfl⟩
theorem bs109 : am_blk 109 0 = am_B109_0 := rfl
theorem bs110 : am_blk 110 0 = am_B110_0 ∧ am_blk 110 (Int.toNat 22) = am_B110_22 ∧ am_blk 110 (Int.toNat 28) = am_B110_28 := ⟨rfl, rfl, rfl⟩
theorem bs111 : am_blk 111 0 = am_B111_0 := rfl
theorem bs112 : am_blk 112 0 = am_B112_0 ∧ am_blk 112 (Int.toNat 22) = am_B112_22 ∧ am_blk 112 (Int.toNat 28) = am_B112_28 := ⟨rfl, rfl, rfl⟩
theorem bs113 : am_blk 113 0 = am_B113_0 := rfl
theorem bs114 : am_blk 114 0 = am_B114_0 ∧ am_blk 114 (Int.toNat 28) = am_B114_28 ∧ am_blk 114 (Int.toNat 34) = am_B114_34 := ⟨rfl, rfl, rfl⟩
theorem bh115_37 : am_blk 115 37 = am_B115_37 := rfl
theorem bs115 : am_blk 115 0 = am_B115_0 ∧ am_blk 115 (Int.toNat 17) = am_B115_17 ∧ am_blk 115 (Int.toNat 24) = am_B115_24 ∧ am_blk 115 (Int.toNat 37) = am_blk 115 37 ∧ am_blk 115 (Int.toNat 76) = am_B115_76 ∧ am_blk 115 (Int.toNat 82) = am_B115_82 := ⟨rfl, rfl, rfl, rfl, rfl, rfl⟩
theorem bh116_42 : am_blk 116 42 = am_B116_42 := rfl
theorem bs116 : am_blk 116 0 = am_B116_0 ∧ am_blk 116 (Int.toNat 17) = am_B116_17 ∧ am_blk 116 (Int.toNat 24) = am_B116_24 ∧ am_blk 116 (Int.toNat 42) = am_blk 116 42 ∧ am_blk 116 (Int.toNat 72) = am_B116_72 ∧ am_blk 116 (Int.toNat 74) = am_B116_74 ∧ am_blk 116 (Int.toNat 82) = am_B116_82 := ⟨rfl, rfl, rfl, rfl, rfl, rfl, rfl⟩
theorem bs117 : am_blk 117 0 = am_B117_0 := rfl
theorem bh118_29 : am_blk 118 29 = am_B118_29 := rfl
theorem bs118 : am_blk 118 0 = am_B118_0 ∧ am_blk 118 (Int.toNat 17) = am_B118_17 ∧ am_blk 118 (Int.toNat 24) = am_B118_24 ∧ am_blk 118 (Int.toNat 29) = am_blk 118 29 ∧ am_blk 118 (Int.toNat 59) = am_B118_59 ∧ am_blk 118 (Int.toNat 63) = am_B118_63 ∧ am_blk 118 (Int.toNat 64) = am_B118_64 ∧ am_blk 118 (Int.toNat 85) = am_B118_85 ∧ am_blk 118 (Int.toNat 91) = am_B118_91 ∧ am_blk 118 (Int.toNat 104) = am_B118_104 ∧ am_blk 118 (Int.toNat 105) = am_B118_105 := ⟨rfl, rfl, rfl, rfl, rfl, rfl, rfl, rfl, rfl, rfl, rfl⟩
theorem bh119_13 : am_blk 119 13 = am_B119_13 := rfl
theorem bs119 : am_blk 119 0 = am_B119_0 ∧ am_blk 119 (Int.toNat 13) = am_blk 119 13 ∧ am_blk 119 (Int.toNat 43) = am_B119_43 ∧ am_blk 119 (Int.toNat 49) = am_B119_49 := ⟨rfl, rfl, rfl, rfl⟩
theorem bh120_29 : am_blk 120 29 = am_B120_29 := rfl
theorem bs120 : am_blk 120 0 = am_B120_0 ∧ am_blk 120 (Int.toNat 17) = am_B120_17 ∧ am_blk 120 (Int.toNat 24) = am_B120_24 ∧ am_blk 120 (Int.toNat 29) = am_blk 120 29 ∧ am_blk 120 (Int.toNat 58) = am_B120_58 ∧ am_blk 120 (Int.toNat 62) = am_B120_62 ∧ am_blk 120 (Int.toNat 63) = am_B120_63 ∧ am_blk 120 (Int.toNat 86) = am_B120_86 ∧ am_blk 120 (Int.toNat 87) = am_B120_87 ∧ am_blk 120 (Int.toNat 94) = am_B120_94 := ⟨rfl, rfl, rfl, rfl, rfl, rfl, rfl, rfl, rfl, rfl⟩
theorem bh121_13 : am_blk 121 13 = am_B121_13 := rfl
theorem bs121 : am_blk 121 0 = am_B121_0 ∧ am_blk 121 (Int.toNat 13) = am_blk 121 13 ∧ am_blk 121 (Int.toNat 44) = am_B121_44 ∧ am_blk 121 (Int.toNat 50) = am_B121_50 ∧ am_blk 121 (Int.toNat 57) = am_B121_57 := ⟨rfl, rfl, rfl, rfl, rfl⟩
theorem bs122 : am_blk 122 0 = am_B122_0 ∧ am_blk 122 (Int.toNat 13) = am_B122_13 ∧ am_blk 122 (Int.toNat 14) = am_B122_14 := ⟨rfl, rfl, rfl⟩
theorem bh123_23 : am_blk 123 23 = am_B123_23 := rfl
theorem bs123 : am_blk 123 0 = am_B123_0 ∧ am_blk 123 (Int.toNat 17) = am_B123_17 ∧ am_blk 123 (Int.toNat 23) = am_blk 123 23 ∧ am_blk 123 (Int.toNat 93) = am_B123_93 ∧ am_blk 123 (Int.toNat 99) = am_B123_99 := ⟨rfl, rfl, rfl, rfl, rfl⟩
theorem bh124_6 : am_blk 124 6 = am_B124_6 := rfl
theorem bs124 : am_blk 124 0 = am_B124_0 ∧ am_blk 124 (Int.toNat 6) = am_blk 124 6 ∧ am_blk 124 (Int.toNat 33) = am_B124_33 ∧ am_blk 124 (Int.toNat 34) = am_B124_34 ∧ am_blk 124 (Int.toNat 48) = am_B124_48 := ⟨rfl, rfl, rfl, rfl, rfl⟩
theorem bs125 : am_blk 125 0 = am_B125_0 := rfl
theorem bh126_42 : am_blk 126 42 = am_B126_42 := rfl
theorem bh126_60 : am_blk 126 60 = am_B126_60 := rfl
theorem bs126 : am_blk 126 0 = am_B126_0 ∧ am_blk 126 (Int.toNat 17) = am_B126_17 ∧ am_blk 126 (Int.toNat 35) = am_B126_35 ∧ am_blk 126 (Int.toNat 42) = am_blk 126 42 ∧ am_blk 126 (Int.toNat 60) = am_blk 126 60 ∧ am_blk 126 (Int.toNat 101) = am_B126_101 ∧ am_blk 126 (Int.toNat 107) = am_B126_107 ∧ am_blk 126 (Int.toNat 113) = am_B126_113 := ⟨rfl, rfl, rfl, rfl, rfl, rfl, rfl, rfl⟩
theorem bs127 : am_blk 127 0 = am_B127_0 := rfl
theorem bh128_24 : am_blk 128 24 = am_B128_24 := rfl
theorem bh128_41 : am_blk 128 41 = am_B128_41 := rfl
theorem bs128 : am_blk 128 0 = am_B128_0 ∧ am_blk 128 (Int.toNat 17) = am_B128_17 ∧ am_blk 128 (Int.toNat 24) = am_blk 128 24 ∧ am_blk 128 (Int.toNat 41) = am_blk 128 41 ∧ am_blk 128 (Int.toNat 80) = am_B128_80 ∧ am_blk 128 (Int.toNat 81) = am_B128_81 ∧ am_blk 128 (Int.toNat 95) = am_B128_95 ∧ am_blk 128 (Int.toNat 101) = am_B128_101 := ⟨rfl, rfl, rfl, rfl, rfl, rfl, rfl, rfl⟩
theorem bs129 : am_blk 129 0 = am_B129_0 := rfl
theorem bs130 : am_blk 130 0 = am_B130_0 := rfl
theorem bh131_54 : am_blk 131 54 = am_B131_54 := rfl
theorem bs131 : am_blk 131 0 = am_B131_0 ∧ am_blk 131 (Int.toNat 14) = am_B131_14 ∧ am_blk 131 (Int.toNat 33) = am_B131_33 ∧ am_blk 131 (Int.toNat 48) = am_B131_48 ∧ am_blk 131 (Int.toNat 54) = am_blk 131 54 ∧ am_blk 131 (Int.toNat 101) = am_B131_101 ∧ am_blk 131 (Int.toNat 107) = am_B131_107 := ⟨rfl, rfl, rfl, rfl, rfl, rfl, rfl⟩
theorem bs132 : am_blk 132 0 = am_B132_0 := rfl
theorem bs133 : am_blk 133 0 = am_B133_0 ∧ am_blk 133 (Int.toNat 11) = am_B133_11 ∧ am_blk 133 (Int.toNat 12) = am_B133_12 := ⟨rfl, rfl, rfl⟩
theorem bh134_25 : am_blk 134 25 = am_B134_25 := rfl
theorem bs134 : am_blk 134 0 = am_B134_0 ∧ am_blk 134 (Int.toNat 25) = am_blk 134 25 ∧ am_blk 134 (Int.toNat 65) = am_B134_65 ∧ am_blk 134 (Int.toNat 79) = am_B134_79 := ⟨rfl, rfl, rfl, rfl⟩
theorem bs135 : am_blk 135 0 = am_B135_0 ∧ am_blk 135 (Int.toNat 18) = am_B135_18 ∧ am_blk 135 (Int.toNat 38) = am_B135_38 ∧ am_blk 135 (Int.toNat 44) = am_B135_44 := ⟨rfl, rfl, rfl, rfl⟩
theorem bs136 : am_blk 136 0 = am_B136_0 ∧ am_blk 136 (Int.toNat 12) = am_B136_12 ∧ am_blk 136 (Int.toNat 26) = am_B136_26 ∧ am_blk 136 (Int.toNat 27) = am_B136_27 := ⟨rfl, rfl, rfl, rfl⟩
theorem bs137 : am_blk 137 0 = am_B137_0 := rfl
theorem bh138_14 : am_blk 138 14 = am_B138_14 := rfl
theorem bs138 : am_blk 138 0 = am_B138_0 ∧ am_blk 138 (Int.toNat 14) = am_blk 138 14 ∧ am_blk 138 (Int.toNat 51) = am_B138_51 ∧ am_blk 138 (Int.toNat 52) = am_B138_52 ∧ am_blk 138 (Int.toNat 61) = am_B138_61 := ⟨rfl, rfl, rfl, rfl, rfl⟩
theorem bh139_16 : am_blk 139 16 = am_B139_16 := rfl
theorem bs139 : am_blk 139 0 = am_B139_0 ∧ am_blk 139 (Int.toNat 16) = am_blk 139 16 ∧ am_blk 139 (Int.toNat 62) = am_B139_62 ∧ am_blk 139 (Int.toNat 66) = am_B139_66 ∧ am_blk 139 (Int.toNat 67) = am_B139_67 ∧ am_blk 139 (Int.toNat 78) = am_B139_78 := ⟨rfl, rfl, rfl, rfl, rfl, rfl⟩
theorem bs140 : am_blk 140 0 = am_B140_0 := rfl
theorem bs141 : am_blk 141 0 = am_B141_0 ∧ am_blk 141 (Int.toNat 18) = am_B141_18 ∧ am_blk 141 (Int.toNat 38) = am_B141_38 ∧ am_blk 141 (Int.toNat 44) = am_B141_44 := ⟨rfl, rfl, rfl, rfl⟩
theorem bh142_40 : am_blk 142 40 = am_B142_40 := rfl
theorem bs142 : am_blk 142 0 = am_B142_0 ∧ am_blk 142 (Int.toNat 17) = am_B142_17 ∧ am_blk 142 (Int.toNat 38) = am_B142_38 ∧ am_blk 142 (Int.toNat 40) = am_blk 142 40 ∧ am_blk 142 (Int.toNat 86) = am_B142_86 ∧ am_blk 142 (Int.toNat 100) = am_B142_100 := ⟨rfl, rfl, rfl, rfl, rfl, rfl⟩
theorem bs143 : am_blk 143 0 = am_B143_0 := rfl
theorem bh144_39 : am_blk 144 39 = am_B144_39 := rfl
theorem bs144 : am_blk 144 0 = am_B144_0 ∧ am_blk 144 (Int.toNat 17) = am_B144_17 ∧ am_blk 144 (Int.toNat 37) = am_B144_37 ∧ am_blk 144 (Int.toNat 39) = am_blk 144 39 ∧ am_blk 144 (Int.toNat 78) = am_B144_78 := ⟨rfl, rfl, rfl, rfl, rfl⟩
theorem bs145 : am_blk 145 0 = am_B145_0 := rfl
theorem bh146_55 : am_blk 146 55 = am_B146_55 := rfl
theorem bs146 : am_blk 146 0 = am_B146_0 ∧ am_blk 146 (Int.toNat 19) = am_B146_19 ∧ am_blk 146 (Int.toNat 27) = am_B146_27 ∧ am_blk 146 (Int.toNat 55) = am_blk 146 55 ∧ am_blk 146 (Int.toNat 83) = am_B146_83 ∧ am_blk 146 (Int.toNat 91) = am_B146_91 ∧ am_blk 146 (Int.toNat 93) = am_B146_93 := ⟨rfl, rfl, rfl, rfl, rfl, rfl, rfl⟩
theorem bh147_5 : am_blk 147 5 = am_B147_5 := rfl
theorem bs147 : am_blk 147 0 = am_B147_0 ∧ am_blk 147 (Int.toNat 5) = am_blk 147 5 ∧ am_blk 147 (Int.toNat 22) = am_B147_22 := ⟨rfl, rfl, rfl⟩
theorem bh148_45 : am_blk 148 45 = am_B148_45 := rfl
theorem bh148_74 : am_blk 148 74 = am_B148_74 := rfl
theorem bs148 : am_blk 148 0 = am_B148_0 ∧ am_blk 148 (Int.toNat 19) = am_B148_19 ∧ am_blk 148 (Int.toNat 27) = am_B148_27 ∧ am_blk 148 (Int.toNat 45) = am_blk 148 45 ∧ am_blk 148 (Int.toNat 68) = am_B148_68 ∧ am_blk 148 (Int.toNat 74) = am_blk 148 74 ∧ am_blk 148 (Int.toNat 90) = am_B148_90 ∧ am_blk 148 (Int.toNat 92) = am_B148_92 ∧ am_blk 148 (Int.toNat 105) = am_B148_105 := ⟨rfl, rfl, rfl, rfl, rfl, rfl, rfl, rfl, rfl⟩
theorem bs149 : am_blk 149 0 = am_B149_0 := rfl
theorem bs150 : am_blk 150 0 = am_B150_0 := rfl
theorem bh151_44 : am_blk 151 44 = am_B151_44 := rfl
theorem bs151 : am_blk 151 0 = am_B151_0 ∧ am_blk 151 (Int.toNat 16) = am_B151_16 ∧ am_blk 151 (Int.toNat 40) = am_B151_40 ∧ am_blk 151 (Int.toNat 44) = am_blk 151 44 ∧ am_blk 151 (Int.toNat 74) = am_B151_74 := ⟨rfl, rfl, rfl, rfl, rfl⟩
theorem bs152 : am_blk 152 0 = am_B152_0 ∧ am_blk 152 (Int.toNat 29) = am_B152_29 := ⟨rfl, rfl⟩
theorem bh153_38 : am_blk 153 38 = am_B153_38 := rfl
theorem bs153 : am_blk 153 0 = am_B153_0 ∧ am_blk 153 (Int.toNat 16) = am_B153_16 ∧ am_blk 153 (Int.toNat 34) = am_B153_34 ∧ am_blk 153 (Int.toNat 38) = am_blk 153 38 ∧ am_blk 153 (Int.toNat 77) = am_B153_77 := ⟨rfl, rfl, rfl, rfl, rfl⟩
theorem bs154 : am_blk 154 0 = am_B154_0 := rfl
theorem bs155 : am_blk 155 0 = am_B155_0 := rfl
theorem bs156 : am_blk 156 0 = am_B156_0 ∧ am_blk 156 (Int.toNat 47) = am_B156_47 := ⟨rfl, rfl⟩
theorem bh157_12 : am_blk 157 12 = am_B157_12 := rfl
theorem bs157 : am_blk 157 0 = am_B157_0 ∧ am_blk 157 (Int.toNat 12) = am_blk 157 12 ∧ am_blk 157 (Int.toNat 33) = am_B157_33 ∧ am_blk 157 (Int.toNat 55) = am_B157_55 ∧ am_blk 157 (Int.toNat 71) = am_B157_71 ∧ am_blk 157 (Int.toNat 81) = am_B157_81 := ⟨rfl, rfl, rfl, rfl, rfl, rfl⟩
theorem bs158 : am_blk 158 0 = am_B158_0 := rfl
theorem bh159_8 : am_blk 159 8 = am_B159_8 := rfl
theorem bs159 : am_blk 159 0 = am_B159_0 ∧ am_blk 159 (Int.toNat 8) = am_blk 159 8 ∧ am_blk 159 (Int.toNat 46) = am_B159_46 ∧ am_blk 159 (Int.toNat 71) = am_B159_71 ∧ am_blk 159 (Int.toNat 105) = am_B159_105 ∧ am_blk 159 (Int.toNat 129) = am_B159_129 ∧ am_blk 159 (Int.toNat 140) = am_B159_140 ∧ am_blk 159 (Int.toNat 141) = am_B159_141 ∧ am_blk 159 (Int.toNat 154) = am_B159_154 := ⟨rfl, rfl, rfl, rfl, rfl, rfl, rfl, rfl, rfl⟩
theorem bh160_0 : am_blk 160 0 = am_B160_0 := rfl
theorem bs160 : am_blk 160 (Int.toNat 0) = am_blk 160 0 ∧ am_blk 160 (Int.toNat 52) = am_B160_52 := ⟨rfl, rfl⟩
theorem bh161_5 : am_blk 161 5 = am_B161_5 := rfl
theorem bs161 : am_blk 161 0 = am_B161_0 ∧ am_blk 161 (Int.toNat 5) = am_blk 161 5 ∧ am_blk 161 (Int.toNat 78) = am_B161_78 ∧ am_blk 161 (Int.toNat 91) = am_B161_91 := ⟨rfl, rfl, rfl, rfl⟩
theorem bs162 : am_blk 162 0 = am_B162_0 ∧ am_blk 162 (Int.toNat 24) = am_B162_24 ∧ am_blk 162 (Int.toNat 48) = am_B162_48 ∧ am_blk 162 (Int.toNat 49) = am_B162_49 ∧ am_blk 162 (Int.toNat 57) = am_B162_57 := ⟨rfl, rfl, rfl, rfl, rfl⟩
theorem bh163_28 : am_blk 163 28 = am_B163_28 := rfl
theorem bs163 : am_blk 163 0 = am_B163_0 ∧ am_blk 163 (Int.toNat 24) = am_B163_24 ∧ am_blk 163 (Int.toNat 26) = am_B163_26 ∧ am_blk 163 (Int.toNat 28) = am_blk 163 28 ∧ am_blk 163 (Int.toNat 57) = am_B163_57 ∧ am_blk 163 (Int.toNat 63) = am_B163_63 := ⟨rfl, rfl, rfl, rfl, rfl, rfl⟩
theorem bs164 : am_blk 164 0 = am_B164_0 ∧ am_blk 164 (Int.toNat 11) = am_B164_11 ∧ am_blk 164 (Int.toNat 38) = am_B164_38 := ⟨rfl, rfl, rfl⟩
theorem bs165 : am_blk 165 0 = am_B165_0 ∧ am_blk 165 (Int.toNat 26) = am_B165_26 ∧ am_blk 165 (Int.toNat 27) = am_B165_27 := ⟨rfl, rfl, rfl⟩
theorem bh166_2 : am_blk 166 2 = am_B166_2 := rfl
theorem bs166 : am_blk 166 0 = am_B166_0 ∧ am_blk 166 (Int.toNat 2) = am_blk 166 2 ∧ am_blk 166 (Int.toNat 24) = am_B166_24 ∧ am_blk 166 (Int.toNat 30) = am_B166_30 := ⟨rfl, rfl, rfl, rfl⟩
theorem bs167 : am_blk 167 0 = am_B167_0 ∧ am_blk 167 (Int.toNat 40) = am_B167_40 ∧ am_blk 167 (Int.toNat 43) = am_B167_43 ∧ am_blk 167 (Int.toNat 46) = am_B167_46 ∧ am_blk 167 (Int.toNat 49) = am_B167_49 ∧ am_blk 167 (Int.toNat 52) = am_B167_52 ∧ am_blk 167 (Int.toNat 55) = am_B167_55 ∧ am_blk 167 (Int.toNat 58) = am_B167_58 := ⟨rfl, rfl, rfl, rfl, rfl, rfl, rfl, rfl⟩
theorem bs168 : am_blk 168 0 = am_B168_0 ∧ am_blk 168 (Int.toNat 44) = am_B168_44 ∧ am_blk 168 (Int.toNat 45) = am_B168_45 := ⟨rfl, rfl, rfl⟩
theorem bs169 : am_blk 169 0 = am_B169_0 ∧ am_blk 169 (Int.toNat 13) = am_B169_13 ∧ am_blk 169 (Int.toNat 31) = am_B169_31 := ⟨rfl, rfl, rfl⟩
theorem bs170 : am_blk 170 0 = am_B170_0 := rfl
theorem bh171_33 : am_blk 171 33 = am_B171_33 := rfl
theorem bh171_113 : am_blk 171 113 = am_B171_113 := rfl
theorem bs171 : am_blk 171 0 = am_B171_0 ∧ am_blk 171 (Int.toNat 33) = am_blk 171 33 ∧ am_blk 171 (Int.toNat 74) = am_B171_74 ∧ am_blk 171 (Int.toNat 86) = am_B171_86 ∧ am_blk 171 (Int.toNat 87) = am_B171_87 ∧ am_blk 171 (Int.toNat 109) = am_B171_109 ∧ am_blk 171 (Int.toNat 113) = am_blk 171 113 ∧ am_blk 171 (Int.toNat 136) = am_B171_136 ∧ am_blk 171 (Int.toNat 137) = am_B171_137 ∧ am_blk 171 (Int.toNat 145) = am_B171_145 := ⟨rfl, rfl, rfl, rfl, rfl, rfl, rfl, rfl, rfl, rfl⟩
theorem bh172_8 : am_blk 172 8 = am_B172_8 := rfl
theorem bh172_84 : am_blk 172 84 = am_B172_84 := rfl
theorem bh172_131 : am_blk 172 131 = am_B172_131 := rfl
theorem bs172 : am_blk 172 0 = am_B172_0 ∧ am_blk 172 (Int.toNat 8) = am_blk 172 8 ∧ am_blk 172 (Int.toNat 34) = am_B172_34 ∧ am_blk 172 (Int.toNat 68) = am_B172_68 ∧ am_blk 172 (Int.toNat 84) = am_blk 172 84 ∧ am_blk 172 (Int.toNat 115) = am_B172_115 ∧ am_blk 172 (Int.toNat 131) = am_blk 172 131 ∧ am_blk 172 (Int.toNat 191) = am_B172_191 ∧ am_blk 172 (Int.toNat 206) = am_B172_206 := ⟨rfl, rfl, rfl, rfl, rfl, rfl, rfl, rfl, rfl⟩
theorem bs173 : am_blk 173 0 = am_B173_0 ∧ am_blk 173 (Int.toNat 17) = am_B173_17 ∧ am_blk 173 (Int.toNat 18) = am_B173_18 := ⟨rfl, rfl, rfl⟩
theorem bs174 : am_blk 174 0 = am_B174_0 ∧ am_blk 174 (Int.toNat 23) = am_B174_23 ∧ am_blk 174 (Int.toNat 24) = am_B174_24 ∧ am_blk 174 (Int.toNat 83) = am_B174_83 ∧ am_blk 174 (Int.toNat 118) = am_B174_118 := ⟨rfl, rfl, rfl, rfl, rfl⟩
theorem bh175_4 : am_blk 175 4 = am_B175_4 := rfl
theorem bs175 : am_blk 175 0 = am_B175_0 ∧ am_blk 175 (Int.toNat 4) = am_blk 175 4 ∧ am_blk 175 (Int.toNat 30) = am_B175_30 ∧ am_blk 175 (Int.toNat 31) = am_B175_31 ∧ am_blk 175 (Int.toNat 38) = am_B175_38 := ⟨rfl, rfl, rfl, rfl, rfl⟩
theorem bh176_32 : am_blk 176 32 = am_B176_32 := rfl
theorem bs176 : am_blk 176 0 = am_B176_0 ∧ am_blk 176 (Int.toNat 28) = am_B176_28 ∧ am_blk 176 (Int.toNat 29) = am_B176_29 ∧ am_blk 176 (Int.toNat 32) = am_blk 176 32 ∧ am_blk 176 (Int.toNat 67) = am_B176_67 ∧ am_blk 176 (Int.toNat 68) = am_B176_68 ∧ am_blk 176 (Int.toNat 75) = am_B176_75 := ⟨rfl, rfl, rfl, rfl, rfl, rfl, rfl⟩
theorem bs177 : am_blk 177 0 = am_B177_0 ∧ am_blk 177 (Int.toNat 12) = am_B177_12 ∧ am_blk 177 (Int.toNat 16) = am_B177_16 ∧ am_blk 177 (Int.toNat 17) = am_B177_17 ∧ am_blk 177 (Int.toNat 31) = am_B177_31 := ⟨rfl, rfl, rfl, rfl, rfl⟩
theorem bs178 : am_blk 178 0 = am_B178_0 ∧ am_blk 178 (Int.toNat 15) = am_B178_15 ∧ am_blk 178 (Int.toNat 17) = am_B178_17 := ⟨rfl, rfl, rfl⟩
theorem bs179 : am_blk 179 0 = am_B179_0 ∧ am_blk 179 (Int.toNat 27) = am_B179_27 ∧ am_blk 179 (Int.toNat 28) = am_B179_28 := ⟨rfl, rfl, rfl⟩
theorem bs180 : am_blk 180 0 = am_B180_0 := rfl
theorem bs181 : am_blk 181 0 = am_B181_0 ∧ am_blk 181 (Int.toNat 41) = am_B181_41 ∧ am_blk 181 (Int.toNat 61) = am_B181_61 := ⟨rfl, rfl, rfl⟩
theorem bs182 : am_blk 182 0 = am_B182_0 ∧ am_blk 182 (Int.toNat 20) = am_B182_20 ∧ am_blk 182 (Int.toNat 27) = am_B182_27 := ⟨rfl, rfl, rfl⟩
theorem bs183 : am_blk 183 0 = am_B183_0 := rfl
theorem bs184 : am_blk 184 0 = am_B184_0 ∧ am_blk 184 (Int.toNat 20) = am_B184_20 ∧ am_blk 184 (Int.toNat 27) = am_B184_27 := ⟨rfl, rfl, rfl⟩
theorem bs185 : am_blk 185 0 = am_B185_0 := rfl
theorem bs186 : am_blk 186 0 = am_B186_0 ∧ am_blk 186 (Int.toNat 14) = am_B186_14 ∧ am_blk 186 (Int.toNat 21) = am_B186_21 ∧ am_blk 186 (Int.toNat 46) = am_B186_46 ∧ am_blk 186 (Int.toNat 69) = am_B186_69 := ⟨rfl, rfl, rfl, rfl, rfl⟩
theorem bh187_4 : am_blk 187 4 = am_B187_4 := rfl
theorem bs187 : am_blk 187 0 = am_B187_0 ∧ am_blk 187 (Int.toNat 4) = am_blk 187 4 ∧ am_blk 187 (Int.toNat 24) = am_B187_24 ∧ am_blk 187 (Int.toNat 36) = am_B187_36 := ⟨rfl, rfl, rfl, rfl⟩
theorem bs188 : am_blk 188 0 = am_B188_0 ∧ am_blk 188 (Int.toNat 14) = am_B188_14 ∧ am_blk 188 (Int.toNat 21) = am_B188_21 ∧ am_blk 188 (Int.toNat 41) = am_B188_41 ∧ am_blk 188 (Int.toNat 58) = am_B188_58 ∧ am_blk 188 (Int.toNat 65) = am_B188_65 := ⟨rfl, rfl, rfl, rfl, rfl, rfl⟩
theorem bh189_2 : am_blk 189 2 = am_B189_2 := rfl
theorem bs189 : am_blk 189 0 = am_B189_0 ∧ am_blk 189 (Int.toNat 2) = am_blk 189 2 ∧ am_blk 189 (Int.toNat 19) = am_B189_19 ∧ am_blk 189 (Int.toNat 27) = am_B189_27 ∧ am_blk 189 (Int.toNat 28) = am_B189_28 := ⟨rfl, rfl, rfl, rfl, rfl⟩
theorem bs190 : am_blk 190 0 = am_B190_0 ∧ am_blk 190 (Int.toNat 8) = am_B190_8 ∧ am_blk 190 (Int.toNat 17) = am_B190_17 ∧ am_blk 190 (Int.toNat 26) = am_B190_26 ∧ am_blk 190 (Int.toNat 36) = am_B190_36 ∧ am_blk 190 (Int.toNat 37) = am_B190_37 := ⟨rfl, rfl, rfl, rfl, rfl, rfl⟩
theorem bs191 : am_blk 191 0 = am_B191_0 ∧ am_blk 191 (Int.toNat 29) = am_B191_29 ∧ am_blk 191 (Int.toNat 36) = am_B191_36 ∧ am_blk 191 (Int.toNat 47) = am_B191_47 ∧ am_blk 191 (Int.toNat 60) = am_B191_60 := ⟨rfl, rfl, rfl, rfl, rfl⟩
theorem bs192 : am_blk 192 0 = am_B192_0 ∧ am_blk 192 (Int.toNat 14) = am_B192_14 ∧ am_blk 192 (Int.toNat 15) = am_B192_15 := ⟨rfl, rfl, rfl⟩
theorem bh193_86 : am_blk 193 86 = am_B193_86 := rfl
theorem bs193 : am_blk 193 0 = am_B193_0 ∧ am_blk 193 (Int.toNat 29) = am_B193_29 ∧ am_blk 193 (Int.toNat 36) = am_B193_36 ∧ am_blk 193 (Int.toNat 48) = am_B193_48 ∧ am_blk 193 (Int.toNat 61) = am_B193_61 ∧ am_blk 193 (Int.toNat 81) = am_B193_81 ∧ am_blk 193 (Int.toNat 82) = am_B193_82 ∧ am_blk 193 (Int.toNat 86) = am_blk 193 86 ∧ am_blk 193 (Int.toNat 112) = am_B193_112 := ⟨rfl, rfl, rfl, rfl, rfl, rfl, rfl, rfl, rfl⟩
theorem bs194 : am_blk 194 0 = am_B194_0 ∧ am_blk 194 (Int.toNat 14) = am_B194_14 ∧ am_blk 194 (Int.toNat 33) = am_B194_33 ∧ am_blk 194 (Int.toNat 54) = am_B194_54 := ⟨rfl, rfl, rfl, rfl⟩
theorem bs195 : am_blk 195 0 = am_B195_0 ∧ am_blk 195 (Int.toNat 30) = am_B195_30 ∧ am_blk 195 (Int.toNat 31) = am_B195_31 := ⟨rfl, rfl, rfl⟩
theorem bs196 : am_blk 196 0 = am_B196_0 ∧ am_blk 196 (Int.toNat 20) = am_B196_20 ∧ am_blk 196 (Int.toNat 40) = am_B196_40 ∧ am_blk 196 (Int.toNat 47) = am_B196_47 := ⟨rfl, rfl, rfl, rfl⟩
theorem bs197 : am_blk 197 0 = am_B197_0 ∧ am_blk 197 (Int.toNat 14) = am_B197_14 ∧ am_blk 197 (Int.toNat 30) = am_B197_30 ∧ am_blk 197 (Int.toNat 53) = am_B197_53 := ⟨rfl, rfl, rfl, rfl⟩
theorem bs198 : am_blk 198 0 = am_B198_0 ∧ am_blk 198 (Int.toNat 11) = am_B198_11 ∧ am_blk 198 (Int.toNat 22) = am_B198_22 ∧ am_blk 198 (Int.toNat 23) = am_B198_23 := ⟨rfl, rfl, rfl, rfl⟩
theorem bs199 : am_blk 199 0 = am_B199_0 ∧ am_blk 199 (Int.toNat 14) = am_B199_14 ∧ am_blk 199 (Int.toNat 21) = am_B199_21 ∧ am_blk 199 (Int.toNat 53) = am_B199_53 ∧ am_blk 199 (Int.toNat 60) = am_B199_60 ∧ am_blk 199 (Int.toNat 80) = am_B199_80 ∧ am_blk 199 (Int.toNat 103) = am_B199_103 ∧ am_blk 199 (Int.toNat 110) = am_B199_110 := ⟨rfl, rfl, rfl, rfl, rfl, rfl, rfl, rfl⟩
theorem bh200_128 : am_blk 200 128 = am_B200_128 := rfl
theorem bh200_165 : am_blk 200 165 = am_B200_165 := rfl
theorem bs200 : am_blk 200 0 = am_B200_0 ∧ am_blk 200 (Int.toNat 14) = am_B200_14 ∧ am_blk 200 (Int.toNat 21) = am_B200_21 ∧ am_blk 200 (Int.toNat 39) = am_B200_39 ∧ am_blk 200 (Int.toNat 46) = am_B200_46 ∧ am_blk 200 (Int.toNat 69) = am_B200_69 ∧ am_blk 200 (Int.toNat 118) = am_B200_118 ∧ am_blk 200 (Int.toNat 125) = am_B200_125 ∧ am_blk 200 (Int.toNat 128) = am_blk 200 128 ∧ am_blk 200 (Int.toNat 162) = am_B200_162 ∧ am_blk 200 (Int.toNat 165) = am_blk 200 165 ∧ am_blk 200 (Int.toNat 200) = am_B200_200 := ⟨rfl, rfl, rfl, rfl, rfl, rfl, rfl, rfl, rfl, rfl, rfl, rfl⟩
theorem bh201_37 : am_blk 201 37 = am_B201_37 := rfl
theorem bs201 : am_blk 201 0 = am_B201_0 ∧ am_blk 201 (Int.toNat 14) = am_B201_14 ∧ am_blk 201 (Int.toNat 35) = am_B201_35 ∧ am_blk 201 (Int.toNat 37) = am_blk 201 37 ∧ am_blk 201 (Int.toNat 89) = am_B201_89 := ⟨rfl, rfl, rfl, rfl, rfl⟩
theorem bh202_20 : am_blk 202 20 = am_B202_20 := rfl
theorem bs202 : am_blk 202 0 = am_B202_0 ∧ am_blk 202 (Int.toNat 18) = am_B202_18 ∧ am_blk 202 (Int.toNat 20) = am_blk 202 20 ∧ am_blk 202 (Int.toNat 80) = am_B202_80 := ⟨rfl, rfl, rfl, rfl⟩
theorem bh203_44 : am_blk 203 44 = am_B203_44 := rfl
theorem bs203 : am_blk 203 0 = am_B203_0 ∧ am_blk 203 (Int.toNat 14) = am_B203_14 ∧ am_blk 203 (Int.toNat 35) = am_B203_35 ∧ am_blk 203 (Int.toNat 44) = am_blk 203 44 ∧ am_blk 203 (Int.toNat 78) = am_B203_78 ∧ am_blk 203 (Int.toNat 82) = am_B203_82 ∧ am_blk 203 (Int.toNat 88) = am_B203_88 := ⟨rfl, rfl, rfl, rfl, rfl, rfl, rfl⟩
theorem bh204_24 : am_blk 204 24 = am_B204_24 := rfl
theorem bs204 : am_blk 204 0 = am_B204_0 ∧ am_blk 204 (Int.toNat 18) = am_B204_18 ∧ am_blk 204 (Int.toNat 24) = am_blk 204 24 ∧ am_blk 204 (Int.toNat 68) = am_B204_68 ∧ am_blk 204 (Int.toNat 82) = am_B204_82 ∧ am_blk 204 (Int.toNat 85) = am_B204_85 := ⟨rfl, rfl, rfl, rfl, rfl, rfl⟩
theorem bs205 : am_blk 205 0 = am_B205_0 := rfl
theorem bs206 : am_blk 206 0 = am_B206_0 := rfl
theorem bs207 : am_blk 207 0 = am_B207_0 ∧ am_blk 207 (Int.toNat 14) = am_B207_14 := ⟨rfl, rfl⟩
theorem bs208 : am_blk 208 0 = am_B208_0 ∧ am_blk 208 (Int.toNat 14) = am_B208_14 := ⟨rfl, rfl⟩
theorem bs209 : am_blk 209 0 = am_B209_0 ∧ am_blk 209 (Int.toNat 11) = am_B209_11 ∧ am_blk 209 (Int.toNat 12) = am_B209_12 := ⟨rfl, rfl, rfl⟩
theorem bs210 : am_blk 210 0 = am_B210_0 ∧ am_blk 210 (Int.toNat 11) = am_B210_11 ∧ am_blk 210 (Int.toNat 12) = am_B210_12 := ⟨rfl, rfl, rfl⟩
theorem bs211 : am_blk 211 0 = am_B211_0 ∧ am_blk 211 (Int.toNat 56) = am_B211_56 ∧ am_blk 211 (Int.toNat 64) = am_B211_64 ∧ am_blk 211 (Int.toNat 72) = am_B211_72 ∧ am_blk 211 (Int.toNat 83) = am_B211_83 ∧ am_blk 211 (Int.toNat 94) = am_B211_94 ∧ am_blk 211 (Int.toNat 102) = am_B211_102 ∧ am_blk 211 (Int.toNat 113) = am_B211_113 ∧ am_blk 211 (Int.toNat 121) = am_B211_121 ∧ am_blk 211 (Int.toNat 129) = am_B211_129 := ⟨rfl, rfl, rfl, rfl, rfl, rfl, rfl, rfl, rfl, rfl⟩
theorem bh212_4 : am_blk 212 4 = am_B212_4 := rfl
theorem bs212 : am_blk 212 0 = am_B212_0 ∧ am_blk 212 (Int.toNat 4) = am_blk 212 4 ∧ am_blk 212 (Int.toNat 25) = am_B212_25 ∧ am_blk 212 (Int.toNat 26) = am_B212_26 ∧ am_blk 212 (Int.toNat 34) = am_B212_34 := ⟨rfl, rfl, rfl, rfl, rfl⟩
theorem bh213_97 : am_blk 213 97 = am_B213_97 := rfl
theorem bs213 : am_blk 213 0 = am_B213_0 ∧ am_blk 213 (Int.toNat 48) = am_B213_48 ∧ am_blk 213 (Int.toNat 55) = am_B213_55 ∧ am_blk 213 (Int.toNat 62) = am_B213_62 ∧ am_blk 213 (Int.toNat 70) = am_B213_70 ∧ am_blk 213 (Int.toNat 78) = am_B213_78 ∧ am_blk 213 (Int.toNat 83) = am_B213_83 ∧ am_blk 213 (Int.toNat 88) = am_B213_88 ∧ am_blk 213 (Int.toNat 95) = am_B213_95 ∧ am_blk 213 (Int.toNat 97) = am_blk 213 97 ∧ am_blk 213 (Int.toNat 119) = am_B213_119 ∧ am_blk 213 (Int.toNat 120) = am_B213_120 ∧ am_blk 213 (Int.toNat 128) = am_B213_128 ∧ am_blk 213 (Int.toNat 130) = am_B213_130 := ⟨rfl, rfl, rfl, rfl, rfl, rfl, rfl, rfl, rfl, rfl, rfl, rfl, rfl, rfl⟩
theorem bh214_32 : am_blk 214 32 = am_B214_32 := rfl
theorem bs214 : am_blk 214 0 = am_B214_0 ∧ am_blk 214 (Int.toNat 17) = am_B214_17 ∧ am_blk 214 (Int.toNat 28) = am_B214_28 ∧ am_blk 214 (Int.toNat 32) = am_blk 214 32 ∧ am_blk 214 (Int.toNat 53) = am_B214_53 := ⟨rfl, rfl, rfl, rfl, rfl⟩
theorem bs215 : am_blk 215 0 = am_B215_0 ∧ am_blk 215 (Int.toNat 21) = am_B215_21 ∧ am_blk 215 (Int.toNat 27) = am_B215_27 := ⟨rfl, rfl, rfl⟩
theorem bh216_18 : am_blk 216 18 = am_B216_18 := rfl
theorem bs216 : am_blk 216 (Int.toNat 18) = am_blk 216 18 ∧ am_blk 216 (Int.toNat 220) = am_B216_220 ∧ am_blk 216 (Int.toNat 253) = am_B216_253 ∧ am_blk 216 (Int.toNat 286) = am_B216_286 ∧ am_blk 216 (Int.toNat 319) = am_B216_319 ∧ am_blk 216 (Int.toNat 352) = am_B216_352 ∧ am_blk 216 (Int.toNat 395) = am_B216_395 ∧ am_blk 216 (Int.toNat 428) = am_B216_428 ∧ am_blk 216 (Int.toNat 461) = am_B216_461 ∧ am_blk 216 (Int.toNat 484) = am_B216_484 ∧ am_blk 216 (Int.toNat 507) = am_B216_507 ∧ am_blk 216 (Int.toNat 540) = am_B216_540 ∧ am_blk 216 (Int.toNat 573) = am_B216_573 ∧ am_blk 216 (Int.toNat 586) = am_B216_586 ∧ am_blk 216 (Int.toNat 599) = am_B216_599 ∧ am_blk 216 (Int.toNat 632) = am_B216_632 ∧ am_blk 216 (Int.toNat 675) = am_B216_675 ∧ am_blk 216 (Int.toNat 708) = am_B216_708 ∧ am_blk 216 (Int.toNat 741) = am_B216_741 ∧ am_blk 216 (Int.toNat 774) = am_B216_774 ∧ am_blk 216 (Int.toNat 807) = am_B216_807 ∧ am_blk 216 (Int.toNat 840) = am_B216_840 ∧ am_blk 216 (Int.toNat 873) = am_B216_873 ∧ am_blk 216 (Int.toNat 886) = am_B216_886 ∧ am_blk 216 (Int.toNat 909) = am_B216_909 ∧ am_blk 216 (Int.toNat 942) = am_B216_942 ∧ am_blk 216 (Int.toNat 975) = am_B216_975 ∧ am_blk 216 (Int.toNat 998) = am_B216_998 ∧ am_blk 216 (Int.toNat 1032) = am_B216_1032 ∧ am_blk 216 (Int.toNat 1055) = am_B216_1055 ∧ am_blk 216 (Int.toNat 1088) = am_B216_1088 ∧ am_blk 216 (Int.toNat 1101) = am_B216_1101 ∧ am_blk 216 (Int.toNat 1114) = am_B216_1114 ∧ am_blk 216 (Int.toNat 1147) = am_B216_1147 ∧ am_blk 216 (Int.toNat 1180) = am_B216_1180 ∧ am_blk 216 (Int.toNat 1223) = am_B216_1223 ∧ am_blk 216 (Int.toNat 1266) = am_B216_1266 ∧ am_blk 216 (Int.toNat 1329) = am_B216_1329 ∧ am_blk 216 (Int.toNat 1352) = am_B216_1352 ∧ am_blk 216 (Int.toNat 1375) = am_B216_1375 ∧ am_blk 216 (Int.toNat 1388) = am_B216_1388 ∧ am_blk 216 (Int.toNat 1401) = am_B216_1401 ∧ am_blk 216 (Int.toNat 1414) = am_B216_1414 ∧ am_blk 216 (Int.toNat 1437) = am_B216_1437 ∧ am_blk 216 (Int.toNat 1460) = am_B216_1460 ∧ am_blk 216 (Int.toNat 1466) = am_B216_1466 := ⟨rfl, rfl, rfl, rfl, rfl, rfl, rfl, rfl, rfl, rfl, rfl, rfl, rfl, rfl, rfl, rfl, rfl, rfl, rfl, rfl, rfl, rfl, rfl, rfl, rfl, rfl, rfl, rfl, rfl, rfl, rfl, rfl, rfl, rfl, rfl, rfl, rfl, rfl, rfl, rfl, rfl, rfl, rfl, rfl, rfl, rfl⟩
end
section
/-! ===== leaves ===== -/
theorem E_X5_within {X : AmX} {G : GG} (v lo hi : Int32) : Ev X 18 [.int v, .int lo, .int hi] G (some (.int (if ¬ v < lo ∧ ¬ hi < v then nI 1 else nI 0))) G := by
  refine Ev_of ?_
  show WP X 18 (am_blk 18 0) [some (.int v), some (.int lo), some (.int hi)] [] G _
  simp (config := { contextual := true }) (disch := first | exact rfl | omega | assumption) only [wp_ldc, wp_sipush, wp_ldc_w, wp_lconst, wp_iadd, wp_isub, wp_imul, wp_iand, wp_ior, wp_ixor, wp_ishl, wp_ishr, wp_iushr, wp_idiv, wp_irem, wp_ineg, wp_i2b, wp_i2s, wp_i2c, wp_i2l, wp_ladd, wp_lmul, wp_lcmp, wp_dup_i, wp_dup_r, wp_dup2, wp_pop, wp_getfield, wp_putfield, wp_getstatic, wp_iaload, wp_baload, wp_aaload, wp_iastore, wp_arraylength, wp_goto, wp_fall, wp_ieq, wp_ine, wp_ilt, wp_ige, wp_igt, wp_ile, wp_ceq, wp_cne, wp_clt, wp_cge, wp_cgt, wp_cle, wp_sw, wp_ret0, wp_ret1, wp_ret2, wp_ret3, wp_ret4, wp_ret5, wp_return, am_ex, gset_eq, gset_ne, upd_eq, upd_ne, gset_gset, am_ci_1, am_ci_6, am_toList_some, am_toList_none, true_implies, false_implies, and_self, and_true, true_and, not_true_eq_false, not_false_eq_true, imp_self, implies_true, Classical.not_not, if_true, if_false, false_and, and_false, or_false, false_or, true_or, or_true, Nat.reduceAdd, Nat.reduceMul, Nat.reduceSub, Nat.reduceLT, Nat.reduceLeDiff, Nat.reduceEqDiff, Nat.reduceBneDiff, Nat.add_zero, Nat.zero_add, reduceCtorEq, wil0, wal0, wis0, wic0, wil1, wal1, wis1, wic1, wil2, wll2, wal2, wis2, was2, wls2, wic2, wil3, wis3, wic3, wic3m, wic3s, wil4, wis4, wic4, wil5, wis5, wic5, wic5m, wil6, wll6, wal6, wis6, was6, wls6, wic6, wil7, wal7, wis7, was7, wic7, wil8, wis8, wic8, wil9, wis9, wic9, wil10, wis10, wic10, am_nI_inj, am_nI_lt, am_nI_le, nI_add, pk_mul, am_nI_sub, am_add_m1, am_gfs, am_pfs, am_alds, am_asts, am_lens, bs18, am_B18_0, am_B18_14, am_B18_15]

theorem E_X5_at {X : AmX} {G : GG} (i f : Nat) : Ev X 32 [.int (nI i), .int (nI f)] G (some (.int (nI (21 + 5 * i + f)))) G := by
  refine Ev_of ?_
  show WP X 32 (am_blk 32 0) [some (.int (nI i)), some (.int (nI f))] [] G _
  simp (config := { contextual := true }) (disch := first | exact rfl | omega | assumption) only [wp_ldc, wp_sipush, wp_ldc_w, wp_lconst, wp_iadd, wp_isub, wp_imul, wp_iand, wp_ior, wp_ixor, wp_ishl, wp_ishr, wp_iushr, wp_idiv, wp_irem, wp_ineg, wp_i2b, wp_i2s, wp_i2c, wp_i2l, wp_ladd, wp_lmul, wp_lcmp, wp_dup_i, wp_dup_r, wp_dup2, wp_pop, wp_getfield, wp_putfield, wp_getstatic, wp_iaload, wp_baload, wp_aaload, wp_iastore, wp_arraylength, wp_goto, wp_fall, wp_ieq, wp_ine, wp_ilt, wp_ige, wp_igt, wp_ile, wp_ceq, wp_cne, wp_clt, wp_cge, wp_cgt, wp_cle, wp_sw, wp_ret0, wp_ret1, wp_ret2, wp_ret3, wp_ret4, wp_ret5, wp_return, am_ex, gset_eq, gset_ne, upd_eq, upd_ne, gset_gset, am_ci_1, am_ci_6, am_toList_some, am_toList_none, true_implies, false_implies, and_self, and_true, true_and, not_true_eq_false, not_false_eq_true, imp_self, implies_true, Classical.not_not, if_true, if_false, false_and, and_false, or_false, false_or, true_or, or_true, Nat.reduceAdd, Nat.reduceMul, Nat.reduceSub, Nat.reduceLT, Nat.reduceLeDiff, Nat.reduceEqDiff, Nat.reduceBneDiff, Nat.add_zero, Nat.zero_add, reduceCtorEq, wil0, wal0, wis0, wic0, wil1, wal1, wis1, wic1, wil2, wll2, wal2, wis2, was2, wls2, wic2, wil3, wis3, wic3, wic3m, wic3s, wil4, wis4, wic4, wil5, wis5, wic5, wic5m, wil6, wll6, wal6, wis6, was6, wls6, wic6, wil7, wal7, wis7, was7, wic7, wil8, wis8, wic8, wil9, wis9, wic9, wil10, wis10, wic10, am_nI_inj, am_nI_lt, am_nI_le, nI_add, pk_mul, am_nI_sub, am_add_m1, am_gfs, am_pfs, am_alds, am_asts, am_lens, bs32, am_B32_0]
theorem E_X5_finding {X : AmX} {G : GG} (f : Nat) (hf : f < 7) : Ev X 21 [.ref 58, .int (Int32.ofInt (-1000001 - f))] G (some (.int (Int32.ofInt (-1000001 - f)))) (gset G 62 (upd (upd (G 62) (f + 1) (G 62 (f + 1) + nI 1)) 0 (G 62 0 + nI 1))) := by
  refine Ev_of ?_
  show WP X 21 (am_blk 21 0) [some (.ref 58), some (.int (Int32.ofInt (-1000001 - f)))] [] G _
  have e : am_ci (-1000001) - Int32.ofInt (-1000001 - f) = nI f := by
    rcases (by omega : f = 0 ∨ f = 1 ∨ f = 2 ∨ f = 3 ∨ f = 4 ∨ f = 5 ∨ f = 6) with rfl | rfl | rfl | rfl | rfl | rfl | rfl <;> decide
  simp (config := { contextual := true }) (disch := first | exact rfl | omega | assumption) only [wp_ldc, wp_sipush, wp_ldc_w, wp_lconst, wp_iadd, wp_isub, wp_imul, wp_iand, wp_ior, wp_ixor, wp_ishl, wp_ishr, wp_iushr, wp_idiv, wp_irem, wp_ineg, wp_i2b, wp_i2s, wp_i2c, wp_i2l, wp_ladd, wp_lmul, wp_lcmp, wp_dup_i, wp_dup_r, wp_dup2, wp_pop, wp_getfield, wp_putfield, wp_getstatic, wp_iaload, wp_baload, wp_aaload, wp_iastore, wp_arraylength, wp_goto, wp_fall, wp_ieq, wp_ine, wp_ilt, wp_ige, wp_igt, wp_ile, wp_ceq, wp_cne, wp_clt, wp_cge, wp_cgt, wp_cle, wp_sw, wp_ret0, wp_ret1, wp_ret2, wp_ret3, wp_ret4, wp_ret5, wp_return, am_ex, gset_eq, gset_ne, upd_eq, upd_ne, gset_gset, am_ci_1, am_ci_6, am_toList_some, am_toList_none, true_implies, false_implies, and_self, and_true, true_and, not_true_eq_false, not_false_eq_true, imp_self, implies_true, Classical.not_not, if_true, if_false, false_and, and_false, or_false, false_or, true_or, or_true, Nat.reduceAdd, Nat.reduceMul, Nat.reduceSub, Nat.reduceLT, Nat.reduceLeDiff, Nat.reduceEqDiff, Nat.reduceBneDiff, Nat.add_zero, Nat.zero_add, reduceCtorEq, wil0, wal0, wis0, wic0, wil1, wal1, wis1, wic1, wil2, wll2, wal2, wis2, was2, wls2, wic2, wil3, wis3, wic3, wic3m, wic3s, wil4, wis4, wic4, wil5, wis5, wic5, wic5m, wil6, wll6, wal6, wis6, was6, wls6, wic6, wil7, wal7, wis7, was7, wic7, wil8, wis8, wic8, wil9, wis9, wic9, wil10, wis10, wic10, am_nI_inj, am_nI_lt, am_nI_le, nI_add, pk_mul, am_nI_sub, am_add_m1, am_gfs, am_pfs, am_alds, am_asts, am_lens, bs21, am_B21_0, e]
end
