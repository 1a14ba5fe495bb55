theorem dX4_init_0 : decode cX4_init 0 = .ok (.aload_n 0, 1) := by decide +kernel
theorem dX4_init_1 : decode cX4_init 1 = .ok (.invokespecial 3, 3) := by decide +kernel
theorem dX4_init_4 : decode cX4_init 4 = .ok (.aload_n 0, 1) := by decide +kernel
theorem dX4_init_5 : decode cX4_init 5 = .ok (.new 9, 3) := by decide +kernel
theorem dX4_init_8 : decode cX4_init 8 = .ok (.dup, 1) := by decide +kernel
theorem dX4_init_9 : decode cX4_init 9 = .ok (.invokespecial 11, 3) := by decide +kernel
theorem dX4_init_12 : decode cX4_init 12 = .ok (.putfield 12, 3) := by decide +kernel
theorem dX4_init_15 : decode cX4_init 15 = .ok (.aload_n 0, 1) := by decide +kernel
theorem dX4_init_16 : decode cX4_init 16 = .ok (.new 9, 3) := by decide +kernel
theorem dX4_init_19 : decode cX4_init 19 = .ok (.dup, 1) := by decide +kernel
theorem dX4_init_20 : decode cX4_init 20 = .ok (.invokespecial 11, 3) := by decide +kernel
theorem dX4_init_23 : decode cX4_init 23 = .ok (.putfield 16, 3) := by decide +kernel
theorem dX4_init_26 : decode cX4_init 26 = .ok (.aload_n 0, 1) := by decide +kernel
theorem dX4_init_27 : decode cX4_init 27 = .ok (.new 9, 3) := by decide +kernel
theorem dX4_init_30 : decode cX4_init 30 = .ok (.dup, 1) := by decide +kernel
theorem dX4_init_31 : decode cX4_init 31 = .ok (.invokespecial 11, 3) := by decide +kernel
theorem dX4_init_34 : decode cX4_init 34 = .ok (.putfield 19, 3) := by decide +kernel
theorem dX4_init_37 : decode cX4_init 37 = .ok (.aload_n 0, 1) := by decide +kernel
theorem dX4_init_38 : decode cX4_init 38 = .ok (.new 22, 3) := by decide +kernel
theorem dX4_init_41 : decode cX4_init 41 = .ok (.dup, 1) := by decide +kernel
theorem dX4_init_42 : decode cX4_init 42 = .ok (.invokespecial 24, 3) := by decide +kernel
theorem dX4_init_45 : decode cX4_init 45 = .ok (.putfield 25, 3) := by decide +kernel
theorem dX4_init_48 : decode cX4_init 48 = .ok (.aload_n 0, 1) := by decide +kernel
theorem dX4_init_49 : decode cX4_init 49 = .ok (.iconst 4, 1) := by decide +kernel
theorem dX4_init_50 : decode cX4_init 50 = .ok (.anewarray 29, 3) := by decide +kernel
theorem dX4_init_53 : decode cX4_init 53 = .ok (.putfield 31, 3) := by decide +kernel
theorem dX4_init_56 : decode cX4_init 56 = .ok (.iconst 0, 1) := by decide +kernel
theorem dX4_init_57 : decode cX4_init 57 = .ok (.istore_n 1, 1) := by decide +kernel
theorem dX4_init_58 : decode cX4_init 58 = .ok (.iload_n 1, 1) := by decide +kernel
theorem dX4_init_59 : decode cX4_init 59 = .ok (.iconst 4, 1) := by decide +kernel
theorem dX4_init_60 : decode cX4_init 60 = .ok (.if_icmp .ge 22, 3) := by decide +kernel
theorem dX4_init_63 : decode cX4_init 63 = .ok (.aload_n 0, 1) := by decide +kernel
theorem dX4_init_64 : decode cX4_init 64 = .ok (.getfield 31, 3) := by decide +kernel
theorem dX4_init_67 : decode cX4_init 67 = .ok (.iload_n 1, 1) := by decide +kernel
theorem dX4_init_68 : decode cX4_init 68 = .ok (.new 29, 3) := by decide +kernel
theorem dX4_init_71 : decode cX4_init 71 = .ok (.dup, 1) := by decide +kernel
theorem dX4_init_72 : decode cX4_init 72 = .ok (.invokespecial 35, 3) := by decide +kernel
theorem dX4_init_75 : decode cX4_init 75 = .ok (.aastore, 1) := by decide +kernel
theorem dX4_init_76 : decode cX4_init 76 = .ok (.iinc 1 1, 3) := by decide +kernel
theorem dX4_init_79 : decode cX4_init 79 = .ok (.goto (-21), 3) := by decide +kernel
theorem dX4_init_82 : decode cX4_init 82 = .ok (.aload_n 0, 1) := by decide +kernel
theorem dX4_init_83 : decode cX4_init 83 = .ok (.bipush 7, 2) := by decide +kernel
theorem dX4_init_85 : decode cX4_init 85 = .ok (.newarray .int, 2) := by decide +kernel
theorem dX4_init_87 : decode cX4_init 87 = .ok (.putfield 36, 3) := by decide +kernel
theorem dX4_init_90 : decode cX4_init 90 = .ok (.aload_n 0, 1) := by decide +kernel
theorem dX4_init_91 : decode cX4_init 91 = .ok (.iconst 0, 1) := by decide +kernel
theorem dX4_init_92 : decode cX4_init 92 = .ok (.putfield 40, 3) := by decide +kernel
theorem dX4_init_95 : decode cX4_init 95 = .ok (.return_, 1) := by decide +kernel
set_option maxRecDepth 20000 in
theorem ggX4_prize_X4_isPlace : GoodIn wsX4_prize wsX4_isPlace := goodIn_r _ [7] (by decide +kernel) (by decide +kernel)
set_option maxRecDepth 20000 in
theorem gX4_prize_X4_isPlace : GoodIn wsX4_prize (va_wsS RX4 44 yX4_isPlace wsX4_isPlace) := goodIn_app (goodIn_of _ (by decide +kernel)) ggX4_prize_X4_isPlace
set_option maxRecDepth 20000 in
theorem ggX4_prize_X4_isWithin : GoodIn wsX4_prize wsX4_isWithin := goodIn_r _ [10] (by decide +kernel) (by decide +kernel)
set_option maxRecDepth 20000 in
theorem gX4_prize_X4_isWithin : GoodIn wsX4_prize (va_wsS RX4 48 yX4_isWithin wsX4_isWithin) := goodIn_app (goodIn_of _ (by decide +kernel)) ggX4_prize_X4_isWithin
set_option maxRecDepth 20000 in
theorem ggX4_prize_X4_found : GoodIn wsX4_prize wsX4_found := goodIn_r _ [14, 1, 15, 8, 9, 6, 10, 16, 17, 18, 19, 20, 21, 22] (by decide +kernel) (by decide +kernel)
set_option maxRecDepth 20000 in
theorem gX4_prize_X4_found : GoodIn wsX4_prize (wsV RX4 53 RX4 yX4_found wsX4_found) := goodIn_app (goodIn_of _ (by decide +kernel)) ggX4_prize_X4_found
theorem dX4_prize_0 : decode cX4_prize 0 = .ok (.iload_n 1, 1) := by decide +kernel
theorem dX4_prize_1 : decode cX4_prize 1 = .ok (.invokestatic 44, 3) := by decide +kernel
theorem dX4_prize_4 : decode cX4_prize 4 = .ok (.ifCond .eq 14, 3) := by decide +kernel
theorem dX4_prize_7 : decode cX4_prize 7 = .ok (.iload_n 2, 1) := by decide +kernel
theorem dX4_prize_8 : decode cX4_prize 8 = .ok (.iconst 0, 1) := by decide +kernel
theorem dX4_prize_9 : decode cX4_prize 9 = .ok (.sipush 9999, 3) := by decide +kernel
theorem dX4_prize_12 : decode cX4_prize 12 = .ok (.invokestatic 48, 3) := by decide +kernel
theorem dX4_prize_15 : decode cX4_prize 15 = .ok (.ifCond .ne 10, 3) := by decide +kernel
theorem dX4_prize_18 : decode cX4_prize 18 = .ok (.aload_n 0, 1) := by decide +kernel
theorem dX4_prize_19 : decode cX4_prize 19 = .ok (.ldc 52, 2) := by decide +kernel
theorem dX4_prize_21 : decode cX4_prize 21 = .ok (.invokevirtual 53, 3) := by decide +kernel
theorem dX4_prize_24 : decode cX4_prize 24 = .ok (.ireturn, 1) := by decide +kernel
theorem dX4_prize_25 : decode cX4_prize 25 = .ok (.aload_n 0, 1) := by decide +kernel
theorem dX4_prize_26 : decode cX4_prize 26 = .ok (.getfield 12, 3) := by decide +kernel
theorem dX4_prize_29 : decode cX4_prize 29 = .ok (.getfield 57, 3) := by decide +kernel
theorem dX4_prize_32 : decode cX4_prize 32 = .ok (.iload_n 1, 1) := by decide +kernel
theorem dX4_prize_33 : decode cX4_prize 33 = .ok (.iaload, 1) := by decide +kernel
theorem dX4_prize_34 : decode cX4_prize 34 = .ok (.istore_n 3, 1) := by decide +kernel
theorem dX4_prize_35 : decode cX4_prize 35 = .ok (.aload_n 0, 1) := by decide +kernel
theorem dX4_prize_36 : decode cX4_prize 36 = .ok (.getfield 12, 3) := by decide +kernel
theorem dX4_prize_39 : decode cX4_prize 39 = .ok (.getfield 57, 3) := by decide +kernel
theorem dX4_prize_42 : decode cX4_prize 42 = .ok (.iload_n 1, 1) := by decide +kernel
theorem dX4_prize_43 : decode cX4_prize 43 = .ok (.iload_n 2, 1) := by decide +kernel
theorem dX4_prize_44 : decode cX4_prize 44 = .ok (.iastore, 1) := by decide +kernel
theorem dX4_prize_45 : decode cX4_prize 45 = .ok (.iload_n 3, 1) := by decide +kernel
theorem dX4_prize_46 : decode cX4_prize 46 = .ok (.ireturn, 1) := by decide +kernel
set_option maxRecDepth 20000 in
theorem ggX4_place_X4_isPlace : GoodIn wsX4_place wsX4_isPlace := goodIn_r _ [7] (by decide +kernel) (by decide +kernel)
set_option maxRecDepth 20000 in
theorem gX4_place_X4_isPlace : GoodIn wsX4_place (va_wsS RX4 44 yX4_isPlace wsX4_isPlace) := goodIn_app (goodIn_of _ (by decide +kernel)) ggX4_place_X4_isPlace
set_option maxRecDepth 20000 in
theorem ggX4_place_X4_isWithin : GoodIn wsX4_place wsX4_isWithin := goodIn_r _ [10] (by decide +kernel) (by decide +kernel)
set_option maxRecDepth 20000 in
theorem gX4_place_X4_isWithin : GoodIn wsX4_place (va_wsS RX4 48 yX4_isWithin wsX4_isWithin) := goodIn_app (goodIn_of _ (by decide +kernel)) ggX4_place_X4_isWithin
set_option maxRecDepth 20000 in
theorem ggX4_place_X4_found : GoodIn wsX4_place wsX4_found := goodIn_r _ [14, 1, 15, 8, 9, 6, 10, 57, 58, 59, 60, 61, 62, 63] (by decide +kernel) (by decide +kernel)
set_option maxRecDepth 20000 in
theorem gX4_place_X4_found : GoodIn wsX4_place (wsV RX4 53 RX4 yX4_found wsX4_found) := goodIn_app (goodIn_of _ (by decide +kernel)) ggX4_place_X4_found
set_option maxRecDepth 20000 in
theorem ggX4_place_X3_settle : GoodIn wsX4_place wsX3_settle := goodIn_r _ [20, 21, 22, 23, 24, 25, 26, 27, 28, 29, 5, 6, 7, 30, 31, 32, 19, 33, 34, 35, 36, 37, 38, 39, 40, 41, 42, 43, 44, 45, 46, 47, 48, 64, 65, 66, 67, 68, 69, 70, 71, 72, 73, 74, 75, 76] (by decide +kernel) (by decide +kernel)
set_option maxRecDepth 20000 in
theorem gX4_place_X3_settle : GoodIn wsX4_place (wsV RX4 60 RX3 yX3_settle wsX3_settle) := goodIn_app (goodIn_of _ (by decide +kernel)) ggX4_place_X3_settle
set_option maxRecDepth 20000 in
theorem ggX4_place_X3_plannersOf : GoodIn wsX4_place wsX3_plannersOf := goodIn_r _ [52, 23, 24, 64, 65, 66, 67, 68, 69, 70, 71, 72, 73, 74, 75, 76] (by decide +kernel) (by decide +kernel)
set_option maxRecDepth 20000 in
theorem gX4_place_X3_plannersOf : GoodIn wsX4_place (wsV RX4 63 RX3 yX3_plannersOf wsX3_plannersOf) := goodIn_app (goodIn_of _ (by decide +kernel)) ggX4_place_X3_plannersOf
set_option maxRecDepth 20000 in
theorem ggX4_place_X3_choosersOf : GoodIn wsX4_place wsX3_choosersOf := goodIn_r _ [56, 23, 25, 64, 65, 66, 67, 68, 69, 70, 71, 72, 73, 74, 75, 76] (by decide +kernel) (by decide +kernel)
set_option maxRecDepth 20000 in
theorem gX4_place_X3_choosersOf : GoodIn wsX4_place (wsV RX4 66 RX3 yX3_choosersOf wsX3_choosersOf) := goodIn_app (goodIn_of _ (by decide +kernel)) ggX4_place_X3_choosersOf
theorem dX4_place_0 : decode cX4_place 0 = .ok (.iload_n 1, 1) := by decide +kernel
theorem dX4_place_1 : decode cX4_place 1 = .ok (.invokestatic 44, 3) := by decide +kernel
theorem dX4_place_4 : decode cX4_place 4 = .ok (.ifCond .eq 12, 3) := by decide +kernel
theorem dX4_place_7 : decode cX4_place 7 = .ok (.iload_n 2, 1) := by decide +kernel
theorem dX4_place_8 : decode cX4_place 8 = .ok (.iconst 0, 1) := by decide +kernel
theorem dX4_place_9 : decode cX4_place 9 = .ok (.iconst 2, 1) := by decide +kernel
theorem dX4_place_10 : decode cX4_place 10 = .ok (.invokestatic 48, 3) := by decide +kernel
theorem dX4_place_13 : decode cX4_place 13 = .ok (.ifCond .ne 10, 3) := by decide +kernel
theorem dX4_place_16 : decode cX4_place 16 = .ok (.aload_n 0, 1) := by decide +kernel
theorem dX4_place_17 : decode cX4_place 17 = .ok (.ldc 52, 2) := by decide +kernel
theorem dX4_place_19 : decode cX4_place 19 = .ok (.invokevirtual 53, 3) := by decide +kernel
theorem dX4_place_22 : decode cX4_place 22 = .ok (.ireturn, 1) := by decide +kernel
theorem dX4_place_23 : decode cX4_place 23 = .ok (.iload_n 2, 1) := by decide +kernel
theorem dX4_place_24 : decode cX4_place 24 = .ok (.ifCond .ne 13, 3) := by decide +kernel
theorem dX4_place_27 : decode cX4_place 27 = .ok (.aload_n 0, 1) := by decide +kernel
theorem dX4_place_28 : decode cX4_place 28 = .ok (.getfield 12, 3) := by decide +kernel
theorem dX4_place_31 : decode cX4_place 31 = .ok (.getfield 57, 3) := by decide +kernel
theorem dX4_place_34 : decode cX4_place 34 = .ok (.iload_n 1, 1) := by decide +kernel
theorem dX4_place_35 : decode cX4_place 35 = .ok (.iaload, 1) := by decide +kernel
theorem dX4_place_36 : decode cX4_place 36 = .ok (.ireturn, 1) := by decide +kernel
theorem dX4_place_37 : decode cX4_place 37 = .ok (.aload_n 0, 1) := by decide +kernel
theorem dX4_place_38 : decode cX4_place 38 = .ok (.getfield 12, 3) := by decide +kernel
theorem dX4_place_41 : decode cX4_place 41 = .ok (.invokevirtual 60, 3) := by decide +kernel
theorem dX4_place_44 : decode cX4_place 44 = .ok (.iload_n 2, 1) := by decide +kernel
theorem dX4_place_45 : decode cX4_place 45 = .ok (.iconst 1, 1) := by decide +kernel
theorem dX4_place_46 : decode cX4_place 46 = .ok (.if_icmp .ne 14, 3) := by decide +kernel
theorem dX4_place_49 : decode cX4_place 49 = .ok (.aload_n 0, 1) := by decide +kernel
theorem dX4_place_50 : decode cX4_place 50 = .ok (.getfield 12, 3) := by decide +kernel
theorem dX4_place_53 : decode cX4_place 53 = .ok (.iload_n 1, 1) := by decide +kernel
theorem dX4_place_54 : decode cX4_place 54 = .ok (.invokevirtual 63, 3) := by decide +kernel
theorem dX4_place_57 : decode cX4_place 57 = .ok (.goto 11, 3) := by decide +kernel
theorem dX4_place_60 : decode cX4_place 60 = .ok (.aload_n 0, 1) := by decide +kernel
theorem dX4_place_61 : decode cX4_place 61 = .ok (.getfield 12, 3) := by decide +kernel
theorem dX4_place_64 : decode cX4_place 64 = .ok (.iload_n 1, 1) := by decide +kernel
theorem dX4_place_65 : decode cX4_place 65 = .ok (.invokevirtual 66, 3) := by decide +kernel
theorem dX4_place_68 : decode cX4_place 68 = .ok (.ireturn, 1) := by decide +kernel
set_option maxRecDepth 20000 in
theorem ggX4_person_X4_isKind : GoodIn wsX4_person wsX4_isKind := goodIn_r _ [7, 8, 9, 6, 10] (by decide +kernel) (by decide +kernel)
set_option maxRecDepth 20000 in
theorem gX4_person_X4_isKind : GoodIn wsX4_person (va_wsS RX4 69 yX4_isKind wsX4_isKind) := goodIn_app (goodIn_of _ (by decide +kernel)) ggX4_person_X4_isKind
set_option maxRecDepth 20000 in
theorem ggX4_person_X4_isPlace : GoodIn wsX4_person wsX4_isPlace := goodIn_r _ [13] (by decide +kernel) (by decide +kernel)
set_option maxRecDepth 20000 in
theorem gX4_person_X4_isPlace : GoodIn wsX4_person (va_wsS RX4 44 yX4_isPlace wsX4_isPlace) := goodIn_app (goodIn_of _ (by decide +kernel)) ggX4_person_X4_isPlace
set_option maxRecDepth 20000 in
theorem ggX4_person_X4_found : GoodIn wsX4_person wsX4_found := goodIn_r _ [17, 1, 18, 8, 9, 6, 10, 30, 31, 32, 33, 34, 35, 36] (by decide +kernel) (by decide +kernel)
set_option maxRecDepth 20000 in
theorem gX4_person_X4_found : GoodIn wsX4_person (wsV RX4 53 RX4 yX4_found wsX4_found) := goodIn_app (goodIn_of _ (by decide +kernel)) ggX4_person_X4_found
set_option maxRecDepth 20000 in
theorem ggX4_person_X3_addOne : GoodIn wsX4_person wsX3_addOne := goodIn_r _ [23, 24, 25, 26, 27, 28, 29, 37, 38, 39, 40, 41, 42, 43, 44, 45, 46, 47, 48, 49] (by decide +kernel) (by decide +kernel)
set_option maxRecDepth 20000 in
theorem gX4_person_X3_addOne : GoodIn wsX4_person (wsV RX4 72 RX3 yX3_addOne wsX3_addOne) := goodIn_app (goodIn_of _ (by decide +kernel)) ggX4_person_X3_addOne
theorem dX4_person_0 : decode cX4_person 0 = .ok (.iload_n 1, 1) := by decide +kernel
theorem dX4_person_1 : decode cX4_person 1 = .ok (.invokestatic 69, 3) := by decide +kernel
theorem dX4_person_4 : decode cX4_person 4 = .ok (.ifCond .eq 10, 3) := by decide +kernel
theorem dX4_person_7 : decode cX4_person 7 = .ok (.iload_n 2, 1) := by decide +kernel
theorem dX4_person_8 : decode cX4_person 8 = .ok (.invokestatic 44, 3) := by decide +kernel
theorem dX4_person_11 : decode cX4_person 11 = .ok (.ifCond .ne 10, 3) := by decide +kernel
theorem dX4_person_14 : decode cX4_person 14 = .ok (.aload_n 0, 1) := by decide +kernel
theorem dX4_person_15 : decode cX4_person 15 = .ok (.ldc 52, 2) := by decide +kernel
theorem dX4_person_17 : decode cX4_person 17 = .ok (.invokevirtual 53, 3) := by decide +kernel
theorem dX4_person_20 : decode cX4_person 20 = .ok (.ireturn, 1) := by decide +kernel
theorem dX4_person_21 : decode cX4_person 21 = .ok (.aload_n 0, 1) := by decide +kernel
theorem dX4_person_22 : decode cX4_person 22 = .ok (.getfield 12, 3) := by decide +kernel
theorem dX4_person_25 : decode cX4_person 25 = .ok (.iload_n 1, 1) := by decide +kernel
theorem dX4_person_26 : decode cX4_person 26 = .ok (.iload_n 2, 1) := by decide +kernel
theorem dX4_person_27 : decode cX4_person 27 = .ok (.invokevirtual 72, 3) := by decide +kernel
theorem dX4_person_30 : decode cX4_person 30 = .ok (.istore_n 3, 1) := by decide +kernel
theorem dX4_person_31 : decode cX4_person 31 = .ok (.iload_n 3, 1) := by decide +kernel
theorem dX4_person_32 : decode cX4_person 32 = .ok (.iconst (-1), 1) := by decide +kernel
theorem dX4_person_33 : decode cX4_person 33 = .ok (.if_icmp .ne 12, 3) := by decide +kernel
theorem dX4_person_36 : decode cX4_person 36 = .ok (.aload_n 0, 1) := by decide +kernel
theorem dX4_person_37 : decode cX4_person 37 = .ok (.ldc 76, 2) := by decide +kernel
theorem dX4_person_39 : decode cX4_person 39 = .ok (.invokevirtual 53, 3) := by decide +kernel
theorem dX4_person_42 : decode cX4_person 42 = .ok (.goto 4, 3) := by decide +kernel
theorem dX4_person_45 : decode cX4_person 45 = .ok (.iload_n 3, 1) := by decide +kernel
theorem dX4_person_46 : decode cX4_person 46 = .ok (.ireturn, 1) := by decide +kernel
set_option maxRecDepth 20000 in
theorem ggX4_of_X4_isThere : GoodIn wsX4_of wsX4_isThere := goodIn_r _ [8, 2, 9, 10, 11, 7, 12, 69, 70, 71, 72, 73, 74, 75, 76, 77, 78, 79, 80, 81, 82, 83, 84, 85, 86, 87, 88] (by decide +kernel) (by decide +kernel)
set_option maxRecDepth 20000 in
theorem gX4_of_X4_isThere : GoodIn wsX4_of (wsV RX4 77 RX4 yX4_isThere wsX4_isThere) := goodIn_app (goodIn_of _ (by decide +kernel)) ggX4_of_X4_isThere
set_option maxRecDepth 20000 in
theorem ggX4_of_X4_isWithin : GoodIn wsX4_of wsX4_isWithin := goodIn_r _ [12] (by decide +kernel) (by decide +kernel)
set_option maxRecDepth 20000 in
theorem gX4_of_X4_isWithin : GoodIn wsX4_of (va_wsS RX4 48 yX4_isWithin wsX4_isWithin) := goodIn_app (goodIn_of _ (by decide +kernel)) ggX4_of_X4_isWithin
set_option maxRecDepth 20000 in
theorem ggX4_of_X4_found : GoodIn wsX4_of wsX4_found := goodIn_r _ [16, 1, 17, 10, 11, 7, 12, 69, 70, 71, 72, 73, 74, 75] (by decide +kernel) (by decide +kernel)
set_option maxRecDepth 20000 in
theorem gX4_of_X4_found : GoodIn wsX4_of (wsV RX4 53 RX4 yX4_found wsX4_found) := goodIn_app (goodIn_of _ (by decide +kernel)) ggX4_of_X4_found
set_option maxRecDepth 20000 in
theorem ggX4_of_X3_traitOf : GoodIn wsX4_of wsX3_traitOf := goodIn_r _ [22, 23, 24, 25, 26, 27, 76, 77, 78, 79, 80, 81, 82, 83, 84, 85, 86, 87, 88] (by decide +kernel) (by decide +kernel)
set_option maxRecDepth 20000 in
theorem gX4_of_X3_traitOf : GoodIn wsX4_of (wsV RX4 80 RX3 yX3_traitOf wsX3_traitOf) := goodIn_app (goodIn_of _ (by decide +kernel)) ggX4_of_X3_traitOf
set_option maxRecDepth 20000 in
theorem ggX4_of_X3_settle : GoodIn wsX4_of wsX3_settle := goodIn_r _ [31, 32, 33, 34, 24, 35, 36, 37, 38, 39, 40, 7, 41, 42, 43, 44, 21, 45, 25, 46, 47, 48, 49, 50, 51, 52, 53, 54, 55, 56, 57, 26, 23, 76, 77, 78, 79, 80, 81, 82, 83, 84, 85, 86, 87, 88] (by decide +kernel) (by decide +kernel)
set_option maxRecDepth 20000 in
theorem gX4_of_X3_settle : GoodIn wsX4_of (wsV RX4 60 RX3 yX3_settle wsX3_settle) := goodIn_app (goodIn_of _ (by decide +kernel)) ggX4_of_X3_settle
set_option maxRecDepth 20000 in
theorem ggX4_of_X3_getsNow : GoodIn wsX4_of wsX3_getsNow := goodIn_r _ [61, 35, 57, 33, 40, 7, 41, 62, 63, 76, 77, 78, 79, 80, 81, 82, 83, 84, 85, 86, 87, 88] (by decide +kernel) (by decide +kernel)
set_option maxRecDepth 20000 in
theorem gX4_of_X3_getsNow : GoodIn wsX4_of (wsV RX4 86 RX3 yX3_getsNow wsX3_getsNow) := goodIn_app (goodIn_of _ (by decide +kernel)) ggX4_of_X3_getsNow
set_option maxRecDepth 20000 in
theorem ggX4_of_X3_regretsNow : GoodIn wsX4_of wsX3_regretsNow := goodIn_r _ [67, 35, 57, 33, 68, 59, 60, 21, 61, 40, 7, 41, 62, 63, 76, 77, 78, 79, 80, 81, 82, 83, 84, 85, 86, 87, 88] (by decide +kernel) (by decide +kernel)
set_option maxRecDepth 20000 in
theorem gX4_of_X3_regretsNow : GoodIn wsX4_of (wsV RX4 89 RX3 yX3_regretsNow wsX3_regretsNow) := goodIn_app (goodIn_of _ (by decide +kernel)) ggX4_of_X3_regretsNow
theorem dX4_of_0 : decode cX4_of 0 = .ok (.aload_n 0, 1) := by decide +kernel
theorem dX4_of_1 : decode cX4_of 1 = .ok (.iload_n 1, 1) := by decide +kernel
theorem dX4_of_2 : decode cX4_of 2 = .ok (.invokevirtual 77, 3) := by decide +kernel
theorem dX4_of_5 : decode cX4_of 5 = .ok (.ifCond .eq 13, 3) := by decide +kernel
theorem dX4_of_8 : decode cX4_of 8 = .ok (.iload_n 2, 1) := by decide +kernel
theorem dX4_of_9 : decode cX4_of 9 = .ok (.iconst 0, 1) := by decide +kernel
theorem dX4_of_10 : decode cX4_of 10 = .ok (.bipush 7, 2) := by decide +kernel
theorem dX4_of_12 : decode cX4_of 12 = .ok (.invokestatic 48, 3) := by decide +kernel
theorem dX4_of_15 : decode cX4_of 15 = .ok (.ifCond .ne 10, 3) := by decide +kernel
theorem dX4_of_18 : decode cX4_of 18 = .ok (.aload_n 0, 1) := by decide +kernel
theorem dX4_of_19 : decode cX4_of 19 = .ok (.ldc 52, 2) := by decide +kernel
theorem dX4_of_21 : decode cX4_of 21 = .ok (.invokevirtual 53, 3) := by decide +kernel
theorem dX4_of_24 : decode cX4_of 24 = .ok (.ireturn, 1) := by decide +kernel
theorem dX4_of_25 : decode cX4_of 25 = .ok (.iload_n 2, 1) := by decide +kernel
theorem dX4_of_26 : decode cX4_of 26 = .ok (.iconst 4, 1) := by decide +kernel
theorem dX4_of_27 : decode cX4_of 27 = .ok (.if_icmp .gt 13, 3) := by decide +kernel
theorem dX4_of_30 : decode cX4_of 30 = .ok (.aload_n 0, 1) := by decide +kernel
theorem dX4_of_31 : decode cX4_of 31 = .ok (.getfield 12, 3) := by decide +kernel
theorem dX4_of_34 : decode cX4_of 34 = .ok (.iload_n 1, 1) := by decide +kernel
theorem dX4_of_35 : decode cX4_of 35 = .ok (.iload_n 2, 1) := by decide +kernel
theorem dX4_of_36 : decode cX4_of 36 = .ok (.invokevirtual 80, 3) := by decide +kernel
theorem dX4_of_39 : decode cX4_of 39 = .ok (.ireturn, 1) := by decide +kernel
theorem dX4_of_40 : decode cX4_of 40 = .ok (.aload_n 0, 1) := by decide +kernel
theorem dX4_of_41 : decode cX4_of 41 = .ok (.getfield 12, 3) := by decide +kernel
theorem dX4_of_44 : decode cX4_of 44 = .ok (.invokevirtual 60, 3) := by decide +kernel
theorem dX4_of_47 : decode cX4_of 47 = .ok (.iload_n 2, 1) := by decide +kernel
theorem dX4_of_48 : decode cX4_of 48 = .ok (.iconst 5, 1) := by decide +kernel
theorem dX4_of_49 : decode cX4_of 49 = .ok (.if_icmp .ne 13, 3) := by decide +kernel
theorem dX4_of_52 : decode cX4_of 52 = .ok (.aload_n 0, 1) := by decide +kernel
theorem dX4_of_53 : decode cX4_of 53 = .ok (.getfield 12, 3) := by decide +kernel
theorem dX4_of_56 : decode cX4_of 56 = .ok (.getfield 83, 3) := by decide +kernel
theorem dX4_of_59 : decode cX4_of 59 = .ok (.iload_n 1, 1) := by decide +kernel
theorem dX4_of_60 : decode cX4_of 60 = .ok (.iaload, 1) := by decide +kernel
theorem dX4_of_61 : decode cX4_of 61 = .ok (.ireturn, 1) := by decide +kernel
theorem dX4_of_62 : decode cX4_of 62 = .ok (.iload_n 2, 1) := by decide +kernel
theorem dX4_of_63 : decode cX4_of 63 = .ok (.bipush 6, 2) := by decide +kernel
theorem dX4_of_65 : decode cX4_of 65 = .ok (.if_icmp .ne 12, 3) := by decide +kernel
theorem dX4_of_68 : decode cX4_of 68 = .ok (.aload_n 0, 1) := by decide +kernel
theorem dX4_of_69 : decode cX4_of 69 = .ok (.getfield 12, 3) := by decide +kernel
theorem dX4_of_72 : decode cX4_of 72 = .ok (.iload_n 1, 1) := by decide +kernel
theorem dX4_of_73 : decode cX4_of 73 = .ok (.invokevirtual 86, 3) := by decide +kernel
theorem dX4_of_76 : decode cX4_of 76 = .ok (.ireturn, 1) := by decide +kernel
theorem dX4_of_77 : decode cX4_of 77 = .ok (.aload_n 0, 1) := by decide +kernel
theorem dX4_of_78 : decode cX4_of 78 = .ok (.getfield 12, 3) := by decide +kernel
theorem dX4_of_81 : decode cX4_of 81 = .ok (.iload_n 1, 1) := by decide +kernel
theorem dX4_of_82 : decode cX4_of 82 = .ok (.invokevirtual 89, 3) := by decide +kernel
theorem dX4_of_85 : decode cX4_of 85 = .ok (.ifCond .eq 7, 3) := by decide +kernel
theorem dX4_of_88 : decode cX4_of 88 = .ok (.iconst 1, 1) := by decide +kernel
theorem dX4_of_89 : decode cX4_of 89 = .ok (.goto 4, 3) := by decide +kernel
theorem dX4_of_92 : decode cX4_of 92 = .ok (.iconst 0, 1) := by decide +kernel
theorem dX4_of_93 : decode cX4_of 93 = .ok (.ireturn, 1) := by decide +kernel
set_option maxRecDepth 20000 in
theorem ggX4_change_X4_isThere : GoodIn wsX4_change wsX4_isThere := goodIn_r _ [7, 1, 8, 9, 10, 6, 11, 41, 42, 43, 44, 45, 46, 47, 48, 49, 50, 51, 52, 53, 54, 55, 56, 57, 58, 59, 60] (by decide +kernel) (by decide +kernel)
set_option maxRecDepth 20000 in
theorem gX4_change_X4_isThere : GoodIn wsX4_change (wsV RX4 77 RX4 yX4_isThere wsX4_isThere) := goodIn_app (goodIn_of _ (by decide +kernel)) ggX4_change_X4_isThere
set_option maxRecDepth 20000 in
theorem ggX4_change_X3_mayBecome : GoodIn wsX4_change wsX3_mayBecome := goodIn_r _ [16, 17, 18, 19, 6, 20, 9, 10, 11, 21, 22, 48, 49, 50, 51, 52, 53, 54, 55, 56, 57, 58, 59, 60] (by decide +kernel) (by decide +kernel)
set_option maxRecDepth 20000 in
theorem gX4_change_X3_mayBecome : GoodIn wsX4_change (wsV RX4 92 RX3 yX3_mayBecome wsX3_mayBecome) := goodIn_app (goodIn_of _ (by decide +kernel)) ggX4_change_X3_mayBecome
set_option maxRecDepth 20000 in
theorem ggX4_change_X4_found : GoodIn wsX4_change wsX4_found := goodIn_r _ [26, 2, 27, 9, 10, 6, 11, 41, 42, 43, 44, 45, 46, 47] (by decide +kernel) (by decide +kernel)
set_option maxRecDepth 20000 in
theorem gX4_change_X4_found : GoodIn wsX4_change (wsV RX4 53 RX4 yX4_found wsX4_found) := goodIn_app (goodIn_of _ (by decide +kernel)) ggX4_change_X4_found
set_option maxRecDepth 20000 in
theorem ggX4_change_X3_traitOf : GoodIn wsX4_change wsX3_traitOf := goodIn_r _ [31, 32, 33, 34, 35, 36, 48, 49, 50, 51, 52, 53, 54, 55, 56, 57, 58, 59, 60] (by decide +kernel) (by decide +kernel)
set_option maxRecDepth 20000 in
theorem gX4_change_X3_traitOf : GoodIn wsX4_change (wsV RX4 80 RX3 yX3_traitOf wsX3_traitOf) := goodIn_app (goodIn_of _ (by decide +kernel)) ggX4_change_X3_traitOf
set_option maxRecDepth 20000 in
theorem ggX4_change_X3_setTrait : GoodIn wsX4_change wsX3_setTrait := goodIn_r _ [40, 32, 33, 34, 35, 36, 48, 49, 50, 51, 52, 53, 54, 55, 56, 57, 58, 59, 60] (by decide +kernel) (by decide +kernel)
set_option maxRecDepth 20000 in
theorem gX4_change_X3_setTrait : GoodIn wsX4_change (wsV RX4 95 RX3 yX3_setTrait wsX3_setTrait) := goodIn_app (goodIn_of _ (by decide +kernel)) ggX4_change_X3_setTrait
theorem dX4_change_0 : decode cX4_change 0 = .ok (.aload_n 0, 1) := by decide +kernel
theorem dX4_change_1 : decode cX4_change 1 = .ok (.iload_n 1, 1) := by decide +kernel
theorem dX4_change_2 : decode cX4_change 2 = .ok (.invokevirtual 77, 3) := by decide +kernel
theorem dX4_change_5 : decode cX4_change 5 = .ok (.ifCond .eq 16, 3) := by decide +kernel
theorem dX4_change_8 : decode cX4_change 8 = .ok (.aload_n 0, 1) := by decide +kernel
theorem dX4_change_9 : decode cX4_change 9 = .ok (.getfield 12, 3) := by decide +kernel
theorem dX4_change_12 : decode cX4_change 12 = .ok (.iload_n 1, 1) := by decide +kernel
theorem dX4_change_13 : decode cX4_change 13 = .ok (.iload_n 2, 1) := by decide +kernel
theorem dX4_change_14 : decode cX4_change 14 = .ok (.iload_n 3, 1) := by decide +kernel
theorem dX4_change_15 : decode cX4_change 15 = .ok (.invokevirtual 92, 3) := by decide +kernel
theorem dX4_change_18 : decode cX4_change 18 = .ok (.ifCond .ne 10, 3) := by decide +kernel
theorem dX4_change_21 : decode cX4_change 21 = .ok (.aload_n 0, 1) := by decide +kernel
theorem dX4_change_22 : decode cX4_change 22 = .ok (.ldc 52, 2) := by decide +kernel
theorem dX4_change_24 : decode cX4_change 24 = .ok (.invokevirtual 53, 3) := by decide +kernel
theorem dX4_change_27 : decode cX4_change 27 = .ok (.ireturn, 1) := by decide +kernel
theorem dX4_change_28 : decode cX4_change 28 = .ok (.aload_n 0, 1) := by decide +kernel
theorem dX4_change_29 : decode cX4_change 29 = .ok (.getfield 12, 3) := by decide +kernel
theorem dX4_change_32 : decode cX4_change 32 = .ok (.iload_n 1, 1) := by decide +kernel
theorem dX4_change_33 : decode cX4_change 33 = .ok (.iload_n 2, 1) := by decide +kernel
theorem dX4_change_34 : decode cX4_change 34 = .ok (.invokevirtual 80, 3) := by decide +kernel
theorem dX4_change_37 : decode cX4_change 37 = .ok (.istore 4, 2) := by decide +kernel
theorem dX4_change_39 : decode cX4_change 39 = .ok (.aload_n 0, 1) := by decide +kernel
theorem dX4_change_40 : decode cX4_change 40 = .ok (.getfield 12, 3) := by decide +kernel
theorem dX4_change_43 : decode cX4_change 43 = .ok (.iload_n 1, 1) := by decide +kernel
theorem dX4_change_44 : decode cX4_change 44 = .ok (.iload_n 2, 1) := by decide +kernel
theorem dX4_change_45 : decode cX4_change 45 = .ok (.iload_n 3, 1) := by decide +kernel
theorem dX4_change_46 : decode cX4_change 46 = .ok (.invokevirtual 95, 3) := by decide +kernel
theorem dX4_change_49 : decode cX4_change 49 = .ok (.iload 4, 2) := by decide +kernel
theorem dX4_change_51 : decode cX4_change 51 = .ok (.ireturn, 1) := by decide +kernel
set_option maxRecDepth 20000 in
theorem ggX4_seen_X4_isThere : GoodIn wsX4_seen wsX4_isThere := goodIn_r _ [8, 2, 9, 10, 11, 7, 12, 65, 66, 67, 68, 69, 70, 71, 72, 73, 74, 75, 76, 77, 78, 79, 80, 81, 82, 83, 84] (by decide +kernel) (by decide +kernel)
set_option maxRecDepth 20000 in
theorem gX4_seen_X4_isThere : GoodIn wsX4_seen (wsV RX4 77 RX4 yX4_isThere wsX4_isThere) := goodIn_app (goodIn_of _ (by decide +kernel)) ggX4_seen_X4_isThere
set_option maxRecDepth 20000 in
theorem ggX4_seen_X4_isPlace : GoodIn wsX4_seen wsX4_isPlace := goodIn_r _ [15] (by decide +kernel) (by decide +kernel)
set_option maxRecDepth 20000 in
theorem gX4_seen_X4_isPlace : GoodIn wsX4_seen (va_wsS RX4 44 yX4_isPlace wsX4_isPlace) := goodIn_app (goodIn_of _ (by decide +kernel)) ggX4_seen_X4_isPlace
set_option maxRecDepth 20000 in
theorem ggX4_seen_X4_found : GoodIn wsX4_seen wsX4_found := goodIn_r _ [19, 1, 20, 10, 11, 7, 12, 65, 66, 67, 68, 69, 70, 71] (by decide +kernel) (by decide +kernel)
set_option maxRecDepth 20000 in
theorem gX4_seen_X4_found : GoodIn wsX4_seen (wsV RX4 53 RX4 yX4_found wsX4_found) := goodIn_app (goodIn_of _ (by decide +kernel)) ggX4_seen_X4_found
set_option maxRecDepth 20000 in
theorem ggX4_seen_X3_canSee : GoodIn wsX4_seen wsX3_canSee := goodIn_r _ [25, 26, 27, 28, 29, 30, 31, 72, 73, 74, 75, 76, 77, 78, 79, 80, 81, 82, 83, 84] (by decide +kernel) (by decide +kernel)
set_option maxRecDepth 20000 in
theorem gX4_seen_X3_canSee : GoodIn wsX4_seen (wsV RX4 99 RX3 yX3_canSee wsX3_canSee) := goodIn_app (goodIn_of _ (by decide +kernel)) ggX4_seen_X3_canSee
set_option maxRecDepth 20000 in
theorem ggX4_seen_X3_settle : GoodIn wsX4_seen wsX3_settle := goodIn_r _ [35, 36, 37, 38, 26, 39, 40, 41, 42, 43, 14, 7, 15, 44, 45, 46, 24, 47, 31, 48, 49, 29, 50, 51, 52, 53, 54, 55, 56, 57, 58, 59, 60, 72, 73, 74, 75, 76, 77, 78, 79, 80, 81, 82, 83, 84] (by decide +kernel) (by decide +kernel)
set_option maxRecDepth 20000 in
theorem gX4_seen_X3_settle : GoodIn wsX4_seen (wsV RX4 60 RX3 yX3_settle wsX3_settle) := goodIn_app (goodIn_of _ (by decide +kernel)) ggX4_seen_X3_settle
set_option maxRecDepth 20000 in
theorem ggX4_seen_X3_seenBy : GoodIn wsX4_seen wsX3_seenBy := goodIn_r _ [64, 36, 26, 72, 73, 74, 75, 76, 77, 78, 79, 80, 81, 82, 83, 84] (by decide +kernel) (by decide +kernel)
set_option maxRecDepth 20000 in
theorem gX4_seen_X3_seenBy : GoodIn wsX4_seen (wsV RX4 104 RX3 yX3_seenBy wsX3_seenBy) := goodIn_app (goodIn_of _ (by decide +kernel)) ggX4_seen_X3_seenBy
theorem dX4_seen_0 : decode cX4_seen 0 = .ok (.aload_n 0, 1) := by decide +kernel
theorem dX4_seen_1 : decode cX4_seen 1 = .ok (.iload_n 1, 1) := by decide +kernel
theorem dX4_seen_2 : decode cX4_seen 2 = .ok (.invokevirtual 77, 3) := by decide +kernel
theorem dX4_seen_5 : decode cX4_seen 5 = .ok (.ifCond .eq 10, 3) := by decide +kernel
theorem dX4_seen_8 : decode cX4_seen 8 = .ok (.iload_n 2, 1) := by decide +kernel
theorem dX4_seen_9 : decode cX4_seen 9 = .ok (.invokestatic 44, 3) := by decide +kernel
theorem dX4_seen_12 : decode cX4_seen 12 = .ok (.ifCond .ne 10, 3) := by decide +kernel
theorem dX4_seen_15 : decode cX4_seen 15 = .ok (.aload_n 0, 1) := by decide +kernel
theorem dX4_seen_16 : decode cX4_seen 16 = .ok (.ldc 52, 2) := by decide +kernel
theorem dX4_seen_18 : decode cX4_seen 18 = .ok (.invokevirtual 53, 3) := by decide +kernel
theorem dX4_seen_21 : decode cX4_seen 21 = .ok (.ireturn, 1) := by decide +kernel
theorem dX4_seen_22 : decode cX4_seen 22 = .ok (.aload_n 0, 1) := by decide +kernel
theorem dX4_seen_23 : decode cX4_seen 23 = .ok (.getfield 12, 3) := by decide +kernel
theorem dX4_seen_26 : decode cX4_seen 26 = .ok (.iload_n 1, 1) := by decide +kernel
theorem dX4_seen_27 : decode cX4_seen 27 = .ok (.iload_n 2, 1) := by decide +kernel
theorem dX4_seen_28 : decode cX4_seen 28 = .ok (.invokevirtual 99, 3) := by decide +kernel
theorem dX4_seen_31 : decode cX4_seen 31 = .ok (.ifCond .ne 10, 3) := by decide +kernel
theorem dX4_seen_34 : decode cX4_seen 34 = .ok (.aload_n 0, 1) := by decide +kernel
theorem dX4_seen_35 : decode cX4_seen 35 = .ok (.ldc 103, 2) := by decide +kernel
theorem dX4_seen_37 : decode cX4_seen 37 = .ok (.invokevirtual 53, 3) := by decide +kernel
theorem dX4_seen_40 : decode cX4_seen 40 = .ok (.ireturn, 1) := by decide +kernel
theorem dX4_seen_41 : decode cX4_seen 41 = .ok (.aload_n 0, 1) := by decide +kernel
theorem dX4_seen_42 : decode cX4_seen 42 = .ok (.getfield 12, 3) := by decide +kernel
theorem dX4_seen_45 : decode cX4_seen 45 = .ok (.invokevirtual 60, 3) := by decide +kernel
theorem dX4_seen_48 : decode cX4_seen 48 = .ok (.aload_n 0, 1) := by decide +kernel
theorem dX4_seen_49 : decode cX4_seen 49 = .ok (.getfield 12, 3) := by decide +kernel
theorem dX4_seen_52 : decode cX4_seen 52 = .ok (.iload_n 1, 1) := by decide +kernel
theorem dX4_seen_53 : decode cX4_seen 53 = .ok (.iload_n 2, 1) := by decide +kernel
theorem dX4_seen_54 : decode cX4_seen 54 = .ok (.invokevirtual 104, 3) := by decide +kernel
theorem dX4_seen_57 : decode cX4_seen 57 = .ok (.ireturn, 1) := by decide +kernel
set_option maxRecDepth 20000 in
theorem ggX4_wishes_X4_isThere : GoodIn wsX4_wishes wsX4_isThere := goodIn_r _ [8, 2, 9, 10, 11, 7, 12, 62, 63, 64, 65, 66, 67, 68, 69, 70, 71, 72, 73, 74, 75, 76, 77, 78, 79, 80, 81] (by decide +kernel) (by decide +kernel)
set_option maxRecDepth 20000 in
theorem gX4_wishes_X4_isThere : GoodIn wsX4_wishes (wsV RX4 77 RX4 yX4_isThere wsX4_isThere) := goodIn_app (goodIn_of _ (by decide +kernel)) ggX4_wishes_X4_isThere
set_option maxRecDepth 20000 in
theorem ggX4_wishes_X4_isPlace : GoodIn wsX4_wishes wsX4_isPlace := goodIn_r _ [15] (by decide +kernel) (by decide +kernel)
set_option maxRecDepth 20000 in
theorem gX4_wishes_X4_isPlace : GoodIn wsX4_wishes (va_wsS RX4 44 yX4_isPlace wsX4_isPlace) := goodIn_app (goodIn_of _ (by decide +kernel)) ggX4_wishes_X4_isPlace
set_option maxRecDepth 20000 in
theorem ggX4_wishes_X4_found : GoodIn wsX4_wishes wsX4_found := goodIn_r _ [19, 1, 20, 10, 11, 7, 12, 62, 63, 64, 65, 66, 67, 68] (by decide +kernel) (by decide +kernel)
set_option maxRecDepth 20000 in
theorem gX4_wishes_X4_found : GoodIn wsX4_wishes (wsV RX4 53 RX4 yX4_found wsX4_found) := goodIn_app (goodIn_of _ (by decide +kernel)) ggX4_wishes_X4_found
set_option maxRecDepth 20000 in
theorem ggX4_wishes_X3_canSee : GoodIn wsX4_wishes wsX3_canSee := goodIn_r _ [25, 26, 27, 28, 29, 30, 31, 69, 70, 71, 72, 73, 74, 75, 76, 77, 78, 79, 80, 81] (by decide +kernel) (by decide +kernel)
set_option maxRecDepth 20000 in
theorem gX4_wishes_X3_canSee : GoodIn wsX4_wishes (wsV RX4 99 RX3 yX3_canSee wsX3_canSee) := goodIn_app (goodIn_of _ (by decide +kernel)) ggX4_wishes_X3_canSee
set_option maxRecDepth 20000 in
theorem ggX4_wishes_X3_settle : GoodIn wsX4_wishes wsX3_settle := goodIn_r _ [35, 36, 37, 38, 26, 39, 40, 41, 42, 43, 14, 7, 15, 44, 45, 46, 24, 47, 31, 48, 49, 29, 50, 51, 52, 53, 54, 55, 56, 57, 58, 59, 60, 69, 70, 71, 72, 73, 74, 75, 76, 77, 78, 79, 80, 81] (by decide +kernel) (by decide +kernel)
set_option maxRecDepth 20000 in
theorem gX4_wishes_X3_settle : GoodIn wsX4_wishes (wsV RX4 60 RX3 yX3_settle wsX3_settle) := goodIn_app (goodIn_of _ (by decide +kernel)) ggX4_wishes_X3_settle
set_option maxRecDepth 20000 in
theorem ggX4_wishes_X3_wishAt : GoodIn wsX4_wishes wsX3_wishAt := goodIn_r _ [57, 26, 36, 58, 59, 38, 60, 69, 70, 71, 72, 73, 74, 75, 76, 77, 78, 79, 80, 81] (by decide +kernel) (by decide +kernel)
set_option maxRecDepth 20000 in
theorem gX4_wishes_X3_wishAt : GoodIn wsX4_wishes (wsV RX4 107 RX3 yX3_wishAt wsX3_wishAt) := goodIn_app (goodIn_of _ (by decide +kernel)) ggX4_wishes_X3_wishAt
theorem dX4_wishes_0 : decode cX4_wishes 0 = .ok (.aload_n 0, 1) := by decide +kernel
theorem dX4_wishes_1 : decode cX4_wishes 1 = .ok (.iload_n 1, 1) := by decide +kernel
theorem dX4_wishes_2 : decode cX4_wishes 2 = .ok (.invokevirtual 77, 3) := by decide +kernel
theorem dX4_wishes_5 : decode cX4_wishes 5 = .ok (.ifCond .eq 10, 3) := by decide +kernel
theorem dX4_wishes_8 : decode cX4_wishes 8 = .ok (.iload_n 2, 1) := by decide +kernel
theorem dX4_wishes_9 : decode cX4_wishes 9 = .ok (.invokestatic 44, 3) := by decide +kernel
theorem dX4_wishes_12 : decode cX4_wishes 12 = .ok (.ifCond .ne 10, 3) := by decide +kernel
theorem dX4_wishes_15 : decode cX4_wishes 15 = .ok (.aload_n 0, 1) := by decide +kernel
theorem dX4_wishes_16 : decode cX4_wishes 16 = .ok (.ldc 52, 2) := by decide +kernel
theorem dX4_wishes_18 : decode cX4_wishes 18 = .ok (.invokevirtual 53, 3) := by decide +kernel
theorem dX4_wishes_21 : decode cX4_wishes 21 = .ok (.ireturn, 1) := by decide +kernel
theorem dX4_wishes_22 : decode cX4_wishes 22 = .ok (.aload_n 0, 1) := by decide +kernel
theorem dX4_wishes_23 : decode cX4_wishes 23 = .ok (.getfield 12, 3) := by decide +kernel
theorem dX4_wishes_26 : decode cX4_wishes 26 = .ok (.iload_n 1, 1) := by decide +kernel
theorem dX4_wishes_27 : decode cX4_wishes 27 = .ok (.iload_n 2, 1) := by decide +kernel
theorem dX4_wishes_28 : decode cX4_wishes 28 = .ok (.invokevirtual 99, 3) := by decide +kernel
theorem dX4_wishes_31 : decode cX4_wishes 31 = .ok (.ifCond .ne 10, 3) := by decide +kernel
theorem dX4_wishes_34 : decode cX4_wishes 34 = .ok (.aload_n 0, 1) := by decide +kernel
theorem dX4_wishes_35 : decode cX4_wishes 35 = .ok (.ldc 103, 2) := by decide +kernel
theorem dX4_wishes_37 : decode cX4_wishes 37 = .ok (.invokevirtual 53, 3) := by decide +kernel
theorem dX4_wishes_40 : decode cX4_wishes 40 = .ok (.ireturn, 1) := by decide +kernel
theorem dX4_wishes_41 : decode cX4_wishes 41 = .ok (.aload_n 0, 1) := by decide +kernel
theorem dX4_wishes_42 : decode cX4_wishes 42 = .ok (.getfield 12, 3) := by decide +kernel
theorem dX4_wishes_45 : decode cX4_wishes 45 = .ok (.invokevirtual 60, 3) := by decide +kernel
theorem dX4_wishes_48 : decode cX4_wishes 48 = .ok (.aload_n 0, 1) := by decide +kernel
theorem dX4_wishes_49 : decode cX4_wishes 49 = .ok (.getfield 12, 3) := by decide +kernel
theorem dX4_wishes_52 : decode cX4_wishes 52 = .ok (.iload_n 1, 1) := by decide +kernel
theorem dX4_wishes_53 : decode cX4_wishes 53 = .ok (.iload_n 2, 1) := by decide +kernel
theorem dX4_wishes_54 : decode cX4_wishes 54 = .ok (.invokevirtual 107, 3) := by decide +kernel
theorem dX4_wishes_57 : decode cX4_wishes 57 = .ok (.ireturn, 1) := by decide +kernel
set_option maxRecDepth 20000 in
theorem ggX4_go_X4_isWithin : GoodIn wsX4_go wsX4_isWithin := goodIn_r _ [9] (by decide +kernel) (by decide +kernel)
set_option maxRecDepth 20000 in
theorem gX4_go_X4_isWithin : GoodIn wsX4_go (va_wsS RX4 48 yX4_isWithin wsX4_isWithin) := goodIn_app (goodIn_of _ (by decide +kernel)) ggX4_go_X4_isWithin
set_option maxRecDepth 20000 in
theorem ggX4_go_X4_found : GoodIn wsX4_go wsX4_found := goodIn_r _ [13, 1, 14, 6, 7, 8, 9, 67, 68, 69, 70, 71, 72, 73] (by decide +kernel) (by decide +kernel)
set_option maxRecDepth 20000 in
theorem gX4_go_X4_found : GoodIn wsX4_go (wsV RX4 53 RX4 yX4_found wsX4_found) := goodIn_app (goodIn_of _ (by decide +kernel)) ggX4_go_X4_found
set_option maxRecDepth 20000 in
theorem ggX4_go_X3_passTuesdays : GoodIn wsX4_go wsX3_passTuesdays := goodIn_r _ [19, 20, 21, 22, 23, 24, 25, 26, 27, 28, 29, 30, 31, 32, 33, 18, 34, 35, 36, 37, 38, 39, 40, 41, 8, 42, 43, 44, 45, 46, 47, 48, 49, 50, 51, 52, 53, 54, 55, 56, 57, 58, 59, 60, 61, 62, 74, 75, 76, 77, 78, 79, 80, 81, 82, 83, 84, 85, 86] (by decide +kernel) (by decide +kernel)
set_option maxRecDepth 20000 in
theorem gX4_go_X3_passTuesdays : GoodIn wsX4_go (wsV RX4 116 RX3 yX3_passTuesdays wsX3_passTuesdays) := goodIn_app (goodIn_of _ (by decide +kernel)) ggX4_go_X3_passTuesdays
set_option maxRecDepth 20000 in
theorem ggX4_go_X3_goodsOfAll : GoodIn wsX4_go wsX3_goodsOfAll := goodIn_r _ [66, 20, 21, 74, 75, 76, 77, 78, 79, 80, 81, 82, 83, 84, 85, 86] (by decide +kernel) (by decide +kernel)
set_option maxRecDepth 20000 in
theorem gX4_go_X3_goodsOfAll : GoodIn wsX4_go (wsV RX4 120 RX3 yX3_goodsOfAll wsX3_goodsOfAll) := goodIn_app (goodIn_of _ (by decide +kernel)) ggX4_go_X3_goodsOfAll
theorem dX4_go_0 : decode cX4_go 0 = .ok (.iload_n 1, 1) := by decide +kernel
theorem dX4_go_1 : decode cX4_go 1 = .ok (.iconst 1, 1) := by decide +kernel
theorem dX4_go_2 : decode cX4_go 2 = .ok (.bipush 60, 2) := by decide +kernel
theorem dX4_go_4 : decode cX4_go 4 = .ok (.invokestatic 48, 3) := by decide +kernel
theorem dX4_go_7 : decode cX4_go 7 = .ok (.ifCond .ne 10, 3) := by decide +kernel
theorem dX4_go_10 : decode cX4_go 10 = .ok (.aload_n 0, 1) := by decide +kernel
theorem dX4_go_11 : decode cX4_go 11 = .ok (.ldc 52, 2) := by decide +kernel
theorem dX4_go_13 : decode cX4_go 13 = .ok (.invokevirtual 53, 3) := by decide +kernel
theorem dX4_go_16 : decode cX4_go 16 = .ok (.ireturn, 1) := by decide +kernel
theorem dX4_go_17 : decode cX4_go 17 = .ok (.aload_n 0, 1) := by decide +kernel
theorem dX4_go_18 : decode cX4_go 18 = .ok (.getfield 12, 3) := by decide +kernel
theorem dX4_go_21 : decode cX4_go 21 = .ok (.getfield 110, 3) := by decide +kernel
theorem dX4_go_24 : decode cX4_go 24 = .ok (.ldc 114, 2) := by decide +kernel
theorem dX4_go_26 : decode cX4_go 26 = .ok (.iload_n 1, 1) := by decide +kernel
theorem dX4_go_27 : decode cX4_go 27 = .ok (.isub, 1) := by decide +kernel
theorem dX4_go_28 : decode cX4_go 28 = .ok (.if_icmp .le 10, 3) := by decide +kernel
theorem dX4_go_31 : decode cX4_go 31 = .ok (.aload_n 0, 1) := by decide +kernel
theorem dX4_go_32 : decode cX4_go 32 = .ok (.ldc 115, 2) := by decide +kernel
theorem dX4_go_34 : decode cX4_go 34 = .ok (.invokevirtual 53, 3) := by decide +kernel
theorem dX4_go_37 : decode cX4_go 37 = .ok (.ireturn, 1) := by decide +kernel
theorem dX4_go_38 : decode cX4_go 38 = .ok (.aload_n 0, 1) := by decide +kernel
theorem dX4_go_39 : decode cX4_go 39 = .ok (.getfield 12, 3) := by decide +kernel
theorem dX4_go_42 : decode cX4_go 42 = .ok (.iload_n 1, 1) := by decide +kernel
theorem dX4_go_43 : decode cX4_go 43 = .ok (.invokevirtual 116, 3) := by decide +kernel
theorem dX4_go_46 : decode cX4_go 46 = .ok (.aload_n 0, 1) := by decide +kernel
theorem dX4_go_47 : decode cX4_go 47 = .ok (.getfield 12, 3) := by decide +kernel
theorem dX4_go_50 : decode cX4_go 50 = .ok (.invokevirtual 120, 3) := by decide +kernel
theorem dX4_go_53 : decode cX4_go 53 = .ok (.ireturn, 1) := by decide +kernel
set_option maxRecDepth 20000 in
theorem ggX4_now_X4_isWithin : GoodIn wsX4_now wsX4_isWithin := goodIn_r _ [7] (by decide +kernel) (by decide +kernel)
set_option maxRecDepth 20000 in
theorem gX4_now_X4_isWithin : GoodIn wsX4_now (va_wsS RX4 48 yX4_isWithin wsX4_isWithin) := goodIn_app (goodIn_of _ (by decide +kernel)) ggX4_now_X4_isWithin
set_option maxRecDepth 20000 in
theorem ggX4_now_X4_found : GoodIn wsX4_now wsX4_found := goodIn_r _ [11, 1, 12, 4, 5, 6, 7, 79, 80, 81, 82, 83, 84, 85] (by decide +kernel) (by decide +kernel)
set_option maxRecDepth 20000 in
theorem gX4_now_X4_found : GoodIn wsX4_now (wsV RX4 53 RX4 yX4_found wsX4_found) := goodIn_app (goodIn_of _ (by decide +kernel)) ggX4_now_X4_found
set_option maxRecDepth 20000 in
theorem ggX4_now_X3_settle : GoodIn wsX4_now wsX3_settle := goodIn_r _ [17, 18, 19, 20, 21, 22, 23, 24, 25, 26, 27, 6, 28, 29, 30, 31, 16, 32, 33, 34, 35, 36, 37, 38, 39, 40, 41, 42, 43, 44, 45, 46, 47, 86, 87, 88, 89, 90, 91, 92, 93, 94, 95, 96, 97, 98] (by decide +kernel) (by decide +kernel)
set_option maxRecDepth 20000 in
theorem gX4_now_X3_settle : GoodIn wsX4_now (wsV RX4 60 RX3 yX3_settle wsX3_settle) := goodIn_app (goodIn_of _ (by decide +kernel)) ggX4_now_X3_settle
set_option maxRecDepth 20000 in
theorem ggX4_now_X3_goodsOfAll : GoodIn wsX4_now wsX3_goodsOfAll := goodIn_r _ [51, 20, 52, 86, 87, 88, 89, 90, 91, 92, 93, 94, 95, 96, 97, 98] (by decide +kernel) (by decide +kernel)
set_option maxRecDepth 20000 in
theorem gX4_now_X3_goodsOfAll : GoodIn wsX4_now (wsV RX4 120 RX3 yX3_goodsOfAll wsX3_goodsOfAll) := goodIn_app (goodIn_of _ (by decide +kernel)) ggX4_now_X3_goodsOfAll
set_option maxRecDepth 20000 in
theorem ggX4_now_X3_regretters : GoodIn wsX4_now wsX3_regretters := goodIn_r _ [56, 20, 57, 58, 59, 16, 60, 22, 45, 19, 61, 62, 63, 64, 27, 6, 28, 65, 66, 86, 87, 88, 89, 90, 91, 92, 93, 94, 95, 96, 97, 98] (by decide +kernel) (by decide +kernel)
set_option maxRecDepth 20000 in
theorem gX4_now_X3_regretters : GoodIn wsX4_now (wsV RX4 124 RX3 yX3_regretters wsX3_regretters) := goodIn_app (goodIn_of _ (by decide +kernel)) ggX4_now_X3_regretters
set_option maxRecDepth 20000 in
theorem ggX4_now_X3_visitedPlaces : GoodIn wsX4_now wsX3_visitedPlaces := goodIn_r _ [70, 19, 86, 87, 88, 89, 90, 91, 92, 93, 94, 95, 96, 97, 98] (by decide +kernel) (by decide +kernel)
set_option maxRecDepth 20000 in
theorem gX4_now_X3_visitedPlaces : GoodIn wsX4_now (wsV RX4 127 RX3 yX3_visitedPlaces wsX3_visitedPlaces) := goodIn_app (goodIn_of _ (by decide +kernel)) ggX4_now_X3_visitedPlaces
set_option maxRecDepth 20000 in
theorem ggX4_now_X3_movers : GoodIn wsX4_now wsX3_movers := goodIn_r _ [74, 20, 22, 21, 86, 87, 88, 89, 90, 91, 92, 93, 94, 95, 96, 97, 98] (by decide +kernel) (by decide +kernel)
set_option maxRecDepth 20000 in
theorem gX4_now_X3_movers : GoodIn wsX4_now (wsV RX4 130 RX3 yX3_movers wsX3_movers) := goodIn_app (goodIn_of _ (by decide +kernel)) ggX4_now_X3_movers
set_option maxRecDepth 20000 in
theorem ggX4_now_X3_richest : GoodIn wsX4_now wsX3_richest := goodIn_r _ [78, 20, 52, 86, 87, 88, 89, 90, 91, 92, 93, 94, 95, 96, 97, 98] (by decide +kernel) (by decide +kernel)
set_option maxRecDepth 20000 in
theorem gX4_now_X3_richest : GoodIn wsX4_now (wsV RX4 133 RX3 yX3_richest wsX3_richest) := goodIn_app (goodIn_of _ (by decide +kernel)) ggX4_now_X3_richest
theorem dX4_now_0 : decode cX4_now 0 = .ok (.iload_n 1, 1) := by decide +kernel
theorem dX4_now_1 : decode cX4_now 1 = .ok (.iconst 0, 1) := by decide +kernel
theorem dX4_now_2 : decode cX4_now 2 = .ok (.iconst 5, 1) := by decide +kernel
theorem dX4_now_3 : decode cX4_now 3 = .ok (.invokestatic 48, 3) := by decide +kernel
theorem dX4_now_6 : decode cX4_now 6 = .ok (.ifCond .ne 10, 3) := by decide +kernel
theorem dX4_now_9 : decode cX4_now 9 = .ok (.aload_n 0, 1) := by decide +kernel
theorem dX4_now_10 : decode cX4_now 10 = .ok (.ldc 52, 2) := by decide +kernel
theorem dX4_now_12 : decode cX4_now 12 = .ok (.invokevirtual 53, 3) := by decide +kernel
theorem dX4_now_15 : decode cX4_now 15 = .ok (.ireturn, 1) := by decide +kernel
theorem dX4_now_16 : decode cX4_now 16 = .ok (.aload_n 0, 1) := by decide +kernel
theorem dX4_now_17 : decode cX4_now 17 = .ok (.getfield 12, 3) := by decide +kernel
theorem dX4_now_20 : decode cX4_now 20 = .ok (.invokevirtual 60, 3) := by decide +kernel
theorem dX4_now_23 : decode cX4_now 23 = .ok (.iload_n 1, 1) := by decide +kernel
theorem dX4_now_24 : decode cX4_now 24 = .ok (.tableswitch 76 0 4 #[36, 44, 52, 60, 68], 36) := by decide +kernel
theorem dX4_now_60 : decode cX4_now 60 = .ok (.aload_n 0, 1) := by decide +kernel
theorem dX4_now_61 : decode cX4_now 61 = .ok (.getfield 12, 3) := by decide +kernel
theorem dX4_now_64 : decode cX4_now 64 = .ok (.getfield 110, 3) := by decide +kernel
theorem dX4_now_67 : decode cX4_now 67 = .ok (.ireturn, 1) := by decide +kernel
theorem dX4_now_68 : decode cX4_now 68 = .ok (.aload_n 0, 1) := by decide +kernel
theorem dX4_now_69 : decode cX4_now 69 = .ok (.getfield 12, 3) := by decide +kernel
theorem dX4_now_72 : decode cX4_now 72 = .ok (.invokevirtual 120, 3) := by decide +kernel
theorem dX4_now_75 : decode cX4_now 75 = .ok (.ireturn, 1) := by decide +kernel
theorem dX4_now_76 : decode cX4_now 76 = .ok (.aload_n 0, 1) := by decide +kernel
theorem dX4_now_77 : decode cX4_now 77 = .ok (.getfield 12, 3) := by decide +kernel
theorem dX4_now_80 : decode cX4_now 80 = .ok (.invokevirtual 124, 3) := by decide +kernel
theorem dX4_now_83 : decode cX4_now 83 = .ok (.ireturn, 1) := by decide +kernel
theorem dX4_now_84 : decode cX4_now 84 = .ok (.aload_n 0, 1) := by decide +kernel
theorem dX4_now_85 : decode cX4_now 85 = .ok (.getfield 12, 3) := by decide +kernel
theorem dX4_now_88 : decode cX4_now 88 = .ok (.invokevirtual 127, 3) := by decide +kernel
theorem dX4_now_91 : decode cX4_now 91 = .ok (.ireturn, 1) := by decide +kernel
theorem dX4_now_92 : decode cX4_now 92 = .ok (.aload_n 0, 1) := by decide +kernel
theorem dX4_now_93 : decode cX4_now 93 = .ok (.getfield 12, 3) := by decide +kernel
theorem dX4_now_96 : decode cX4_now 96 = .ok (.invokevirtual 130, 3) := by decide +kernel
theorem dX4_now_99 : decode cX4_now 99 = .ok (.ireturn, 1) := by decide +kernel
theorem dX4_now_100 : decode cX4_now 100 = .ok (.aload_n 0, 1) := by decide +kernel
theorem dX4_now_101 : decode cX4_now 101 = .ok (.getfield 12, 3) := by decide +kernel
theorem dX4_now_104 : decode cX4_now 104 = .ok (.invokevirtual 133, 3) := by decide +kernel
theorem dX4_now_107 : decode cX4_now 107 = .ok (.ireturn, 1) := by decide +kernel
set_option maxRecDepth 20000 in
theorem ggX4_ahead_X4_isThere : GoodIn wsX4_ahead wsX4_isThere := goodIn_r _ [9, 3, 10, 11, 12, 8, 13, 77, 78, 79, 80, 81, 82, 83, 84, 85, 86, 87, 88, 89, 90, 91, 92, 93, 94, 95, 96] (by decide +kernel) (by decide +kernel)
set_option maxRecDepth 20000 in
theorem gX4_ahead_X4_isThere : GoodIn wsX4_ahead (wsV RX4 77 RX4 yX4_isThere wsX4_isThere) := goodIn_app (goodIn_of _ (by decide +kernel)) ggX4_ahead_X4_isThere
set_option maxRecDepth 20000 in
theorem ggX4_ahead_X4_isWithin : GoodIn wsX4_ahead wsX4_isWithin := goodIn_r _ [13] (by decide +kernel) (by decide +kernel)
set_option maxRecDepth 20000 in
theorem gX4_ahead_X4_isWithin : GoodIn wsX4_ahead (va_wsS RX4 48 yX4_isWithin wsX4_isWithin) := goodIn_app (goodIn_of _ (by decide +kernel)) ggX4_ahead_X4_isWithin
set_option maxRecDepth 20000 in
theorem ggX4_ahead_X4_found : GoodIn wsX4_ahead wsX4_found := goodIn_r _ [17, 1, 18, 11, 12, 8, 13, 77, 78, 79, 80, 81, 82, 83] (by decide +kernel) (by decide +kernel)
set_option maxRecDepth 20000 in
theorem gX4_ahead_X4_found : GoodIn wsX4_ahead (wsV RX4 53 RX4 yX4_found wsX4_found) := goodIn_app (goodIn_of _ (by decide +kernel)) ggX4_ahead_X4_found
set_option maxRecDepth 20000 in
theorem ggX4_ahead_X3_become : GoodIn wsX4_ahead wsX3_become := goodIn_r _ [23, 24, 25, 26, 27, 28, 29, 30, 31, 32, 33, 34, 35, 36, 37, 84, 85, 86, 87, 88, 89, 90, 91, 92, 93, 94, 95, 96] (by decide +kernel) (by decide +kernel)
set_option maxRecDepth 20000 in
theorem gX4_ahead_X3_become : GoodIn wsX4_ahead (wsV RX4 136 RX3 yX3_become wsX3_become) := goodIn_app (goodIn_of _ (by decide +kernel)) ggX4_ahead_X3_become
set_option maxRecDepth 20000 in
theorem ggX4_ahead_X3_passTuesdays : GoodIn wsX4_ahead wsX3_passTuesdays := goodIn_r _ [41, 35, 33, 42, 43, 44, 45, 46, 29, 30, 47, 36, 48, 49, 50, 22, 51, 52, 53, 54, 55, 56, 57, 58, 8, 59, 60, 61, 62, 63, 31, 64, 65, 66, 67, 68, 69, 70, 24, 32, 71, 72, 73, 74, 75, 76, 84, 85, 86, 87, 88, 89, 90, 91, 92, 93, 94, 95, 96] (by decide +kernel) (by decide +kernel)
set_option maxRecDepth 20000 in
theorem gX4_ahead_X3_passTuesdays : GoodIn wsX4_ahead (wsV RX4 116 RX3 yX3_passTuesdays wsX3_passTuesdays) := goodIn_app (goodIn_of _ (by decide +kernel)) ggX4_ahead_X3_passTuesdays
theorem dX4_ahead_0 : decode cX4_ahead 0 = .ok (.aload_n 0, 1) := by decide +kernel
theorem dX4_ahead_1 : decode cX4_ahead 1 = .ok (.iload_n 1, 1) := by decide +kernel
theorem dX4_ahead_2 : decode cX4_ahead 2 = .ok (.invokevirtual 77, 3) := by decide +kernel
theorem dX4_ahead_5 : decode cX4_ahead 5 = .ok (.ifCond .eq 13, 3) := by decide +kernel
theorem dX4_ahead_8 : decode cX4_ahead 8 = .ok (.iload_n 2, 1) := by decide +kernel
theorem dX4_ahead_9 : decode cX4_ahead 9 = .ok (.iconst 0, 1) := by decide +kernel
theorem dX4_ahead_10 : decode cX4_ahead 10 = .ok (.bipush 100, 2) := by decide +kernel
theorem dX4_ahead_12 : decode cX4_ahead 12 = .ok (.invokestatic 48, 3) := by decide +kernel
theorem dX4_ahead_15 : decode cX4_ahead 15 = .ok (.ifCond .ne 10, 3) := by decide +kernel
theorem dX4_ahead_18 : decode cX4_ahead 18 = .ok (.aload_n 0, 1) := by decide +kernel
theorem dX4_ahead_19 : decode cX4_ahead 19 = .ok (.ldc 52, 2) := by decide +kernel
theorem dX4_ahead_21 : decode cX4_ahead 21 = .ok (.invokevirtual 53, 3) := by decide +kernel
theorem dX4_ahead_24 : decode cX4_ahead 24 = .ok (.ireturn, 1) := by decide +kernel
theorem dX4_ahead_25 : decode cX4_ahead 25 = .ok (.aload_n 0, 1) := by decide +kernel
theorem dX4_ahead_26 : decode cX4_ahead 26 = .ok (.getfield 19, 3) := by decide +kernel
theorem dX4_ahead_29 : decode cX4_ahead 29 = .ok (.aload_n 0, 1) := by decide +kernel
theorem dX4_ahead_30 : decode cX4_ahead 30 = .ok (.getfield 12, 3) := by decide +kernel
theorem dX4_ahead_33 : decode cX4_ahead 33 = .ok (.invokevirtual 136, 3) := by decide +kernel
theorem dX4_ahead_36 : decode cX4_ahead 36 = .ok (.aload_n 0, 1) := by decide +kernel
theorem dX4_ahead_37 : decode cX4_ahead 37 = .ok (.getfield 19, 3) := by decide +kernel
theorem dX4_ahead_40 : decode cX4_ahead 40 = .ok (.iload_n 2, 1) := by decide +kernel
theorem dX4_ahead_41 : decode cX4_ahead 41 = .ok (.invokevirtual 116, 3) := by decide +kernel
theorem dX4_ahead_44 : decode cX4_ahead 44 = .ok (.aload_n 0, 1) := by decide +kernel
theorem dX4_ahead_45 : decode cX4_ahead 45 = .ok (.getfield 19, 3) := by decide +kernel
theorem dX4_ahead_48 : decode cX4_ahead 48 = .ok (.getfield 140, 3) := by decide +kernel
theorem dX4_ahead_51 : decode cX4_ahead 51 = .ok (.iload_n 1, 1) := by decide +kernel
theorem dX4_ahead_52 : decode cX4_ahead 52 = .ok (.iaload, 1) := by decide +kernel
theorem dX4_ahead_53 : decode cX4_ahead 53 = .ok (.ireturn, 1) := by decide +kernel
set_option maxRecDepth 20000 in
theorem ggX4_plan_X4_isThere : GoodIn wsX4_plan wsX4_isThere := goodIn_r _ [9, 3, 10, 11, 12, 8, 13, 77, 78, 79, 80, 81, 82, 83, 84, 85, 86, 87, 88, 89, 90, 91, 92, 93, 94, 95, 96] (by decide +kernel) (by decide +kernel)
set_option maxRecDepth 20000 in
theorem gX4_plan_X4_isThere : GoodIn wsX4_plan (wsV RX4 77 RX4 yX4_isThere wsX4_isThere) := goodIn_app (goodIn_of _ (by decide +kernel)) ggX4_plan_X4_isThere
set_option maxRecDepth 20000 in
theorem ggX4_plan_X4_isWithin : GoodIn wsX4_plan wsX4_isWithin := goodIn_r _ [13] (by decide +kernel) (by decide +kernel)
set_option maxRecDepth 20000 in
theorem gX4_plan_X4_isWithin : GoodIn wsX4_plan (va_wsS RX4 48 yX4_isWithin wsX4_isWithin) := goodIn_app (goodIn_of _ (by decide +kernel)) ggX4_plan_X4_isWithin
set_option maxRecDepth 20000 in
theorem ggX4_plan_X4_found : GoodIn wsX4_plan wsX4_found := goodIn_r _ [17, 1, 18, 11, 12, 8, 13, 77, 78, 79, 80, 81, 82, 83] (by decide +kernel) (by decide +kernel)
set_option maxRecDepth 20000 in
theorem gX4_plan_X4_found : GoodIn wsX4_plan (wsV RX4 53 RX4 yX4_found wsX4_found) := goodIn_app (goodIn_of _ (by decide +kernel)) ggX4_plan_X4_found
set_option maxRecDepth 20000 in
theorem ggX4_plan_X3_become : GoodIn wsX4_plan wsX3_become := goodIn_r _ [23, 24, 25, 26, 27, 28, 29, 30, 31, 32, 33, 34, 35, 36, 37, 84, 85, 86, 87, 88, 89, 90, 91, 92, 93, 94, 95, 96] (by decide +kernel) (by decide +kernel)
set_option maxRecDepth 20000 in
theorem gX4_plan_X3_become : GoodIn wsX4_plan (wsV RX4 136 RX3 yX3_become wsX3_become) := goodIn_app (goodIn_of _ (by decide +kernel)) ggX4_plan_X3_become
set_option maxRecDepth 20000 in
theorem ggX4_plan_X3_passTuesdays : GoodIn wsX4_plan wsX3_passTuesdays := goodIn_r _ [41, 35, 33, 42, 43, 44, 45, 46, 29, 30, 47, 36, 48, 49, 50, 22, 51, 52, 53, 54, 55, 56, 57, 58, 8, 59, 60, 61, 62, 63, 31, 64, 65, 66, 67, 68, 69, 70, 24, 32, 71, 72, 73, 74, 75, 76, 84, 85, 86, 87, 88, 89, 90, 91, 92, 93, 94, 95, 96] (by decide +kernel) (by decide +kernel)
set_option maxRecDepth 20000 in
theorem gX4_plan_X3_passTuesdays : GoodIn wsX4_plan (wsV RX4 116 RX3 yX3_passTuesdays wsX3_passTuesdays) := goodIn_app (goodIn_of _ (by decide +kernel)) ggX4_plan_X3_passTuesdays
theorem dX4_plan_0 : decode cX4_plan 0 = .ok (.aload_n 0, 1) := by decide +kernel
theorem dX4_plan_1 : decode cX4_plan 1 = .ok (.iload_n 1, 1) := by decide +kernel
theorem dX4_plan_2 : decode cX4_plan 2 = .ok (.invokevirtual 77, 3) := by decide +kernel
theorem dX4_plan_5 : decode cX4_plan 5 = .ok (.ifCond .eq 13, 3) := by decide +kernel
theorem dX4_plan_8 : decode cX4_plan 8 = .ok (.iload_n 2, 1) := by decide +kernel
theorem dX4_plan_9 : decode cX4_plan 9 = .ok (.iconst 0, 1) := by decide +kernel
theorem dX4_plan_10 : decode cX4_plan 10 = .ok (.bipush 100, 2) := by decide +kernel
theorem dX4_plan_12 : decode cX4_plan 12 = .ok (.invokestatic 48, 3) := by decide +kernel
theorem dX4_plan_15 : decode cX4_plan 15 = .ok (.ifCond .ne 10, 3) := by decide +kernel
theorem dX4_plan_18 : decode cX4_plan 18 = .ok (.aload_n 0, 1) := by decide +kernel
theorem dX4_plan_19 : decode cX4_plan 19 = .ok (.ldc 52, 2) := by decide +kernel
theorem dX4_plan_21 : decode cX4_plan 21 = .ok (.invokevirtual 53, 3) := by decide +kernel
theorem dX4_plan_24 : decode cX4_plan 24 = .ok (.ireturn, 1) := by decide +kernel
theorem dX4_plan_25 : decode cX4_plan 25 = .ok (.aload_n 0, 1) := by decide +kernel
theorem dX4_plan_26 : decode cX4_plan 26 = .ok (.getfield 19, 3) := by decide +kernel
theorem dX4_plan_29 : decode cX4_plan 29 = .ok (.aload_n 0, 1) := by decide +kernel
theorem dX4_plan_30 : decode cX4_plan 30 = .ok (.getfield 12, 3) := by decide +kernel
theorem dX4_plan_33 : decode cX4_plan 33 = .ok (.invokevirtual 136, 3) := by decide +kernel
theorem dX4_plan_36 : decode cX4_plan 36 = .ok (.aload_n 0, 1) := by decide +kernel
theorem dX4_plan_37 : decode cX4_plan 37 = .ok (.getfield 19, 3) := by decide +kernel
theorem dX4_plan_40 : decode cX4_plan 40 = .ok (.iload_n 2, 1) := by decide +kernel
theorem dX4_plan_41 : decode cX4_plan 41 = .ok (.invokevirtual 116, 3) := by decide +kernel
theorem dX4_plan_44 : decode cX4_plan 44 = .ok (.aload_n 0, 1) := by decide +kernel
theorem dX4_plan_45 : decode cX4_plan 45 = .ok (.getfield 19, 3) := by decide +kernel
theorem dX4_plan_48 : decode cX4_plan 48 = .ok (.getfield 143, 3) := by decide +kernel
theorem dX4_plan_51 : decode cX4_plan 51 = .ok (.iload_n 1, 1) := by decide +kernel
theorem dX4_plan_52 : decode cX4_plan 52 = .ok (.iaload, 1) := by decide +kernel
theorem dX4_plan_53 : decode cX4_plan 53 = .ok (.ireturn, 1) := by decide +kernel
set_option maxRecDepth 20000 in
theorem ggX4_rests_X3_become : GoodIn wsX4_rests wsX3_become := goodIn_r _ [8, 9, 10, 11, 12, 13, 14, 15, 16, 17, 18, 19, 20, 21, 22, 84, 85, 86, 87, 88, 89, 90, 91, 92, 93, 94, 95, 96] (by decide +kernel) (by decide +kernel)
set_option maxRecDepth 20000 in
theorem gX4_rests_X3_become : GoodIn wsX4_rests (wsV RX4 136 RX3 yX3_become wsX3_become) := goodIn_app (goodIn_of _ (by decide +kernel)) ggX4_rests_X3_become
set_option maxRecDepth 20000 in
theorem ggX4_rests_X3_settle : GoodIn wsX4_rests wsX3_settle := goodIn_r _ [26, 27, 28, 20, 15, 29, 30, 31, 32, 33, 34, 35, 36, 37, 38, 39, 7, 40, 16, 41, 42, 43, 44, 45, 46, 47, 48, 49, 50, 51, 9, 17, 14, 84, 85, 86, 87, 88, 89, 90, 91, 92, 93, 94, 95, 96] (by decide +kernel) (by decide +kernel)
set_option maxRecDepth 20000 in
theorem gX4_rests_X3_settle : GoodIn wsX4_rests (wsV RX4 60 RX3 yX3_settle wsX3_settle) := goodIn_app (goodIn_of _ (by decide +kernel)) ggX4_rests_X3_settle
set_option maxRecDepth 20000 in
theorem ggX4_rests_X3_movers : GoodIn wsX4_rests wsX3_movers := goodIn_r _ [55, 20, 29, 15, 84, 85, 86, 87, 88, 89, 90, 91, 92, 93, 94, 95, 96] (by decide +kernel) (by decide +kernel)
set_option maxRecDepth 20000 in
theorem gX4_rests_X3_movers : GoodIn wsX4_rests (wsV RX4 130 RX3 yX3_movers wsX3_movers) := goodIn_app (goodIn_of _ (by decide +kernel)) ggX4_rests_X3_movers
set_option maxRecDepth 20000 in
theorem ggX4_rests_X3_passTuesdays : GoodIn wsX4_rests wsX3_passTuesdays := goodIn_r _ [59, 20, 18, 60, 41, 42, 43, 44, 14, 15, 29, 21, 61, 24, 25, 7, 26, 27, 28, 30, 31, 32, 33, 34, 35, 36, 37, 38, 39, 40, 16, 45, 46, 47, 48, 49, 50, 51, 9, 17, 62, 63, 64, 65, 66, 67, 84, 85, 86, 87, 88, 89, 90, 91, 92, 93, 94, 95, 96] (by decide +kernel) (by decide +kernel)
set_option maxRecDepth 20000 in
theorem gX4_rests_X3_passTuesdays : GoodIn wsX4_rests (wsV RX4 116 RX3 yX3_passTuesdays wsX3_passTuesdays) := goodIn_app (goodIn_of _ (by decide +kernel)) ggX4_rests_X3_passTuesdays
set_option maxRecDepth 20000 in
theorem ggX4_rests_X4_found : GoodIn wsX4_rests wsX4_found := goodIn_r _ [71, 72, 73, 74, 75, 35, 76, 77, 78, 79, 80, 81, 82, 83] (by decide +kernel) (by decide +kernel)
set_option maxRecDepth 20000 in
theorem gX4_rests_X4_found : GoodIn wsX4_rests (wsV RX4 53 RX4 yX4_found wsX4_found) := goodIn_app (goodIn_of _ (by decide +kernel)) ggX4_rests_X4_found
theorem dX4_rests_0 : decode cX4_rests 0 = .ok (.aload_n 0, 1) := by decide +kernel
theorem dX4_rests_1 : decode cX4_rests 1 = .ok (.getfield 19, 3) := by decide +kernel
theorem dX4_rests_4 : decode cX4_rests 4 = .ok (.aload_n 0, 1) := by decide +kernel
theorem dX4_rests_5 : decode cX4_rests 5 = .ok (.getfield 12, 3) := by decide +kernel
theorem dX4_rests_8 : decode cX4_rests 8 = .ok (.invokevirtual 136, 3) := by decide +kernel
theorem dX4_rests_11 : decode cX4_rests 11 = .ok (.iconst 0, 1) := by decide +kernel
theorem dX4_rests_12 : decode cX4_rests 12 = .ok (.istore_n 1, 1) := by decide +kernel
theorem dX4_rests_13 : decode cX4_rests 13 = .ok (.iload_n 1, 1) := by decide +kernel
theorem dX4_rests_14 : decode cX4_rests 14 = .ok (.bipush 100, 2) := by decide +kernel
theorem dX4_rests_16 : decode cX4_rests 16 = .ok (.if_icmp .gt 36, 3) := by decide +kernel
theorem dX4_rests_19 : decode cX4_rests 19 = .ok (.aload_n 0, 1) := by decide +kernel
theorem dX4_rests_20 : decode cX4_rests 20 = .ok (.getfield 19, 3) := by decide +kernel
theorem dX4_rests_23 : decode cX4_rests 23 = .ok (.invokevirtual 60, 3) := by decide +kernel
theorem dX4_rests_26 : decode cX4_rests 26 = .ok (.aload_n 0, 1) := by decide +kernel
theorem dX4_rests_27 : decode cX4_rests 27 = .ok (.getfield 19, 3) := by decide +kernel
theorem dX4_rests_30 : decode cX4_rests 30 = .ok (.invokevirtual 130, 3) := by decide +kernel
theorem dX4_rests_33 : decode cX4_rests 33 = .ok (.ifCond .ne 5, 3) := by decide +kernel
theorem dX4_rests_36 : decode cX4_rests 36 = .ok (.iload_n 1, 1) := by decide +kernel
theorem dX4_rests_37 : decode cX4_rests 37 = .ok (.ireturn, 1) := by decide +kernel
theorem dX4_rests_38 : decode cX4_rests 38 = .ok (.aload_n 0, 1) := by decide +kernel
theorem dX4_rests_39 : decode cX4_rests 39 = .ok (.getfield 19, 3) := by decide +kernel
theorem dX4_rests_42 : decode cX4_rests 42 = .ok (.iconst 1, 1) := by decide +kernel
theorem dX4_rests_43 : decode cX4_rests 43 = .ok (.invokevirtual 116, 3) := by decide +kernel
theorem dX4_rests_46 : decode cX4_rests 46 = .ok (.iinc 1 1, 3) := by decide +kernel
theorem dX4_rests_49 : decode cX4_rests 49 = .ok (.goto (-36), 3) := by decide +kernel
theorem dX4_rests_52 : decode cX4_rests 52 = .ok (.aload_n 0, 1) := by decide +kernel
theorem dX4_rests_53 : decode cX4_rests 53 = .ok (.ldc 103, 2) := by decide +kernel
theorem dX4_rests_55 : decode cX4_rests 55 = .ok (.invokevirtual 53, 3) := by decide +kernel
theorem dX4_rests_58 : decode cX4_rests 58 = .ok (.ireturn, 1) := by decide +kernel
set_option maxRecDepth 20000 in
theorem ggX4_round_X3_become : GoodIn wsX4_round wsX3_become := goodIn_r _ [8, 9, 10, 11, 12, 13, 14, 15, 16, 17, 18, 19, 20, 21, 22, 83, 84, 85, 86, 87, 88, 89, 90, 91, 92, 93, 94, 95] (by decide +kernel) (by decide +kernel)
set_option maxRecDepth 20000 in
theorem gX4_round_X3_become : GoodIn wsX4_round (wsV RX4 136 RX3 yX3_become wsX3_become) := goodIn_app (goodIn_of _ (by decide +kernel)) ggX4_round_X3_become
set_option maxRecDepth 20000 in
theorem ggX4_round_X3_passTuesdays : GoodIn wsX4_round wsX3_passTuesdays := goodIn_r _ [26, 20, 18, 27, 28, 29, 30, 31, 14, 15, 32, 21, 33, 34, 35, 7, 36, 37, 38, 39, 40, 41, 42, 43, 44, 45, 46, 47, 48, 49, 16, 50, 51, 52, 53, 54, 55, 56, 9, 17, 57, 58, 59, 60, 61, 62, 83, 84, 85, 86, 87, 88, 89, 90, 91, 92, 93, 94, 95] (by decide +kernel) (by decide +kernel)
set_option maxRecDepth 20000 in
theorem gX4_round_X3_passTuesdays : GoodIn wsX4_round (wsV RX4 116 RX3 yX3_passTuesdays wsX3_passTuesdays) := goodIn_app (goodIn_of _ (by decide +kernel)) ggX4_round_X3_passTuesdays
set_option maxRecDepth 20000 in
theorem ggX4_round_X3_hasPlansOf : GoodIn wsX4_round wsX3_hasPlansOf := goodIn_r _ [66, 20, 15, 83, 84, 85, 86, 87, 88, 89, 90, 91, 92, 93, 94, 95] (by decide +kernel) (by decide +kernel)
set_option maxRecDepth 20000 in
theorem gX4_round_X3_hasPlansOf : GoodIn wsX4_round (wsV RX4 146 RX3 yX3_hasPlansOf wsX3_hasPlansOf) := goodIn_app (goodIn_of _ (by decide +kernel)) ggX4_round_X3_hasPlansOf
set_option maxRecDepth 20000 in
theorem ggX4_round_X4_found : GoodIn wsX4_round wsX4_found := goodIn_r _ [70, 71, 72, 73, 74, 44, 75, 76, 77, 78, 79, 80, 81, 82] (by decide +kernel) (by decide +kernel)
set_option maxRecDepth 20000 in
theorem gX4_round_X4_found : GoodIn wsX4_round (wsV RX4 53 RX4 yX4_found wsX4_found) := goodIn_app (goodIn_of _ (by decide +kernel)) ggX4_round_X4_found
theorem dX4_round_0 : decode cX4_round 0 = .ok (.aload_n 0, 1) := by decide +kernel
theorem dX4_round_1 : decode cX4_round 1 = .ok (.getfield 19, 3) := by decide +kernel
theorem dX4_round_4 : decode cX4_round 4 = .ok (.aload_n 0, 1) := by decide +kernel
theorem dX4_round_5 : decode cX4_round 5 = .ok (.getfield 12, 3) := by decide +kernel
theorem dX4_round_8 : decode cX4_round 8 = .ok (.invokevirtual 136, 3) := by decide +kernel
theorem dX4_round_11 : decode cX4_round 11 = .ok (.iconst 1, 1) := by decide +kernel
theorem dX4_round_12 : decode cX4_round 12 = .ok (.istore_n 1, 1) := by decide +kernel
theorem dX4_round_13 : decode cX4_round 13 = .ok (.iload_n 1, 1) := by decide +kernel
theorem dX4_round_14 : decode cX4_round 14 = .ok (.bipush 100, 2) := by decide +kernel
theorem dX4_round_16 : decode cX4_round 16 = .ok (.if_icmp .gt 33, 3) := by decide +kernel
theorem dX4_round_19 : decode cX4_round 19 = .ok (.aload_n 0, 1) := by decide +kernel
theorem dX4_round_20 : decode cX4_round 20 = .ok (.getfield 19, 3) := by decide +kernel
theorem dX4_round_23 : decode cX4_round 23 = .ok (.iconst 1, 1) := by decide +kernel
theorem dX4_round_24 : decode cX4_round 24 = .ok (.invokevirtual 116, 3) := by decide +kernel
theorem dX4_round_27 : decode cX4_round 27 = .ok (.aload_n 0, 1) := by decide +kernel
theorem dX4_round_28 : decode cX4_round 28 = .ok (.getfield 19, 3) := by decide +kernel
theorem dX4_round_31 : decode cX4_round 31 = .ok (.aload_n 0, 1) := by decide +kernel
theorem dX4_round_32 : decode cX4_round 32 = .ok (.getfield 12, 3) := by decide +kernel
theorem dX4_round_35 : decode cX4_round 35 = .ok (.invokevirtual 146, 3) := by decide +kernel
theorem dX4_round_38 : decode cX4_round 38 = .ok (.ifCond .eq 5, 3) := by decide +kernel
theorem dX4_round_41 : decode cX4_round 41 = .ok (.iload_n 1, 1) := by decide +kernel
theorem dX4_round_42 : decode cX4_round 42 = .ok (.ireturn, 1) := by decide +kernel
theorem dX4_round_43 : decode cX4_round 43 = .ok (.iinc 1 1, 3) := by decide +kernel
theorem dX4_round_46 : decode cX4_round 46 = .ok (.goto (-33), 3) := by decide +kernel
theorem dX4_round_49 : decode cX4_round 49 = .ok (.aload_n 0, 1) := by decide +kernel
theorem dX4_round_50 : decode cX4_round 50 = .ok (.ldc 103, 2) := by decide +kernel
theorem dX4_round_52 : decode cX4_round 52 = .ok (.invokevirtual 53, 3) := by decide +kernel
theorem dX4_round_55 : decode cX4_round 55 = .ok (.ireturn, 1) := by decide +kernel
set_option maxRecDepth 20000 in
theorem ggX4_meet_X4_isThere : GoodIn wsX4_meet wsX4_isThere := goodIn_r _ [10, 3, 11, 12, 13, 9, 14, 79, 80, 81, 82, 83, 84, 85, 86, 87, 88, 89, 90, 91, 92, 93, 94, 95, 96, 97, 98] (by decide +kernel) (by decide +kernel)
set_option maxRecDepth 20000 in
theorem gX4_meet_X4_isThere : GoodIn wsX4_meet (wsV RX4 77 RX4 yX4_isThere wsX4_isThere) := goodIn_app (goodIn_of _ (by decide +kernel)) ggX4_meet_X4_isThere
set_option maxRecDepth 20000 in
theorem ggX4_meet_X4_found : GoodIn wsX4_meet wsX4_found := goodIn_r _ [18, 1, 19, 12, 13, 9, 14, 79, 80, 81, 82, 83, 84, 85] (by decide +kernel) (by decide +kernel)
set_option maxRecDepth 20000 in
theorem gX4_meet_X4_found : GoodIn wsX4_meet (wsV RX4 53 RX4 yX4_found wsX4_found) := goodIn_app (goodIn_of _ (by decide +kernel)) ggX4_meet_X4_found
set_option maxRecDepth 20000 in
theorem ggX4_meet_X3_become : GoodIn wsX4_meet wsX3_become := goodIn_r _ [24, 25, 26, 27, 28, 29, 30, 31, 32, 33, 34, 35, 36, 37, 38, 86, 87, 88, 89, 90, 91, 92, 93, 94, 95, 96, 97, 98] (by decide +kernel) (by decide +kernel)
set_option maxRecDepth 20000 in
theorem gX4_meet_X3_become : GoodIn wsX4_meet (wsV RX4 136 RX3 yX3_become wsX3_become) := goodIn_app (goodIn_of _ (by decide +kernel)) ggX4_meet_X3_become
set_option maxRecDepth 20000 in
theorem ggX4_meet_X3_settle : GoodIn wsX4_meet wsX3_settle := goodIn_r _ [42, 43, 44, 36, 31, 45, 46, 47, 48, 49, 50, 9, 51, 52, 53, 54, 23, 55, 32, 56, 57, 58, 59, 60, 61, 62, 63, 64, 65, 66, 25, 33, 30, 86, 87, 88, 89, 90, 91, 92, 93, 94, 95, 96, 97, 98] (by decide +kernel) (by decide +kernel)
set_option maxRecDepth 20000 in
theorem gX4_meet_X3_settle : GoodIn wsX4_meet (wsV RX4 60 RX3 yX3_settle wsX3_settle) := goodIn_app (goodIn_of _ (by decide +kernel)) ggX4_meet_X3_settle
set_option maxRecDepth 20000 in
theorem ggX4_meet_X3_passTuesdays : GoodIn wsX4_meet wsX3_passTuesdays := goodIn_r _ [70, 36, 34, 71, 56, 57, 58, 59, 30, 31, 45, 37, 72, 40, 41, 23, 42, 43, 44, 46, 47, 48, 49, 50, 9, 51, 52, 53, 54, 55, 32, 60, 61, 62, 63, 64, 65, 66, 25, 33, 73, 74, 75, 76, 77, 78, 86, 87, 88, 89, 90, 91, 92, 93, 94, 95, 96, 97, 98] (by decide +kernel) (by decide +kernel)
set_option maxRecDepth 20000 in
theorem gX4_meet_X3_passTuesdays : GoodIn wsX4_meet (wsV RX4 116 RX3 yX3_passTuesdays wsX3_passTuesdays) := goodIn_app (goodIn_of _ (by decide +kernel)) ggX4_meet_X3_passTuesdays
theorem dX4_meet_0 : decode cX4_meet 0 = .ok (.aload_n 0, 1) := by decide +kernel
theorem dX4_meet_1 : decode cX4_meet 1 = .ok (.iload_n 1, 1) := by decide +kernel
theorem dX4_meet_2 : decode cX4_meet 2 = .ok (.invokevirtual 77, 3) := by decide +kernel
theorem dX4_meet_5 : decode cX4_meet 5 = .ok (.ifCond .eq 16, 3) := by decide +kernel
theorem dX4_meet_8 : decode cX4_meet 8 = .ok (.aload_n 0, 1) := by decide +kernel
theorem dX4_meet_9 : decode cX4_meet 9 = .ok (.iload_n 2, 1) := by decide +kernel
theorem dX4_meet_10 : decode cX4_meet 10 = .ok (.invokevirtual 77, 3) := by decide +kernel
theorem dX4_meet_13 : decode cX4_meet 13 = .ok (.ifCond .eq 8, 3) := by decide +kernel
theorem dX4_meet_16 : decode cX4_meet 16 = .ok (.iload_n 1, 1) := by decide +kernel
theorem dX4_meet_17 : decode cX4_meet 17 = .ok (.iload_n 2, 1) := by decide +kernel
theorem dX4_meet_18 : decode cX4_meet 18 = .ok (.if_icmp .ne 10, 3) := by decide +kernel
theorem dX4_meet_21 : decode cX4_meet 21 = .ok (.aload_n 0, 1) := by decide +kernel
theorem dX4_meet_22 : decode cX4_meet 22 = .ok (.ldc 52, 2) := by decide +kernel
theorem dX4_meet_24 : decode cX4_meet 24 = .ok (.invokevirtual 53, 3) := by decide +kernel
theorem dX4_meet_27 : decode cX4_meet 27 = .ok (.ireturn, 1) := by decide +kernel
theorem dX4_meet_28 : decode cX4_meet 28 = .ok (.aload_n 0, 1) := by decide +kernel
theorem dX4_meet_29 : decode cX4_meet 29 = .ok (.getfield 19, 3) := by decide +kernel
theorem dX4_meet_32 : decode cX4_meet 32 = .ok (.aload_n 0, 1) := by decide +kernel
theorem dX4_meet_33 : decode cX4_meet 33 = .ok (.getfield 12, 3) := by decide +kernel
theorem dX4_meet_36 : decode cX4_meet 36 = .ok (.invokevirtual 136, 3) := by decide +kernel
theorem dX4_meet_39 : decode cX4_meet 39 = .ok (.iconst 0, 1) := by decide +kernel
theorem dX4_meet_40 : decode cX4_meet 40 = .ok (.istore_n 3, 1) := by decide +kernel
theorem dX4_meet_41 : decode cX4_meet 41 = .ok (.iload_n 3, 1) := by decide +kernel
theorem dX4_meet_42 : decode cX4_meet 42 = .ok (.bipush 100, 2) := by decide +kernel
theorem dX4_meet_44 : decode cX4_meet 44 = .ok (.if_icmp .gt 47, 3) := by decide +kernel
theorem dX4_meet_47 : decode cX4_meet 47 = .ok (.aload_n 0, 1) := by decide +kernel
theorem dX4_meet_48 : decode cX4_meet 48 = .ok (.getfield 19, 3) := by decide +kernel
theorem dX4_meet_51 : decode cX4_meet 51 = .ok (.invokevirtual 60, 3) := by decide +kernel
theorem dX4_meet_54 : decode cX4_meet 54 = .ok (.aload_n 0, 1) := by decide +kernel
theorem dX4_meet_55 : decode cX4_meet 55 = .ok (.getfield 19, 3) := by decide +kernel
theorem dX4_meet_58 : decode cX4_meet 58 = .ok (.getfield 83, 3) := by decide +kernel
theorem dX4_meet_61 : decode cX4_meet 61 = .ok (.iload_n 1, 1) := by decide +kernel
theorem dX4_meet_62 : decode cX4_meet 62 = .ok (.iaload, 1) := by decide +kernel
theorem dX4_meet_63 : decode cX4_meet 63 = .ok (.aload_n 0, 1) := by decide +kernel
theorem dX4_meet_64 : decode cX4_meet 64 = .ok (.getfield 19, 3) := by decide +kernel
theorem dX4_meet_67 : decode cX4_meet 67 = .ok (.getfield 83, 3) := by decide +kernel
theorem dX4_meet_70 : decode cX4_meet 70 = .ok (.iload_n 2, 1) := by decide +kernel
theorem dX4_meet_71 : decode cX4_meet 71 = .ok (.iaload, 1) := by decide +kernel
theorem dX4_meet_72 : decode cX4_meet 72 = .ok (.if_icmp .ne 5, 3) := by decide +kernel
theorem dX4_meet_75 : decode cX4_meet 75 = .ok (.iload_n 3, 1) := by decide +kernel
theorem dX4_meet_76 : decode cX4_meet 76 = .ok (.ireturn, 1) := by decide +kernel
theorem dX4_meet_77 : decode cX4_meet 77 = .ok (.aload_n 0, 1) := by decide +kernel
theorem dX4_meet_78 : decode cX4_meet 78 = .ok (.getfield 19, 3) := by decide +kernel
theorem dX4_meet_81 : decode cX4_meet 81 = .ok (.iconst 1, 1) := by decide +kernel
theorem dX4_meet_82 : decode cX4_meet 82 = .ok (.invokevirtual 116, 3) := by decide +kernel
theorem dX4_meet_85 : decode cX4_meet 85 = .ok (.iinc 3 1, 3) := by decide +kernel
theorem dX4_meet_88 : decode cX4_meet 88 = .ok (.goto (-47), 3) := by decide +kernel
theorem dX4_meet_91 : decode cX4_meet 91 = .ok (.aload_n 0, 1) := by decide +kernel
theorem dX4_meet_92 : decode cX4_meet 92 = .ok (.ldc 103, 2) := by decide +kernel
theorem dX4_meet_94 : decode cX4_meet 94 = .ok (.invokevirtual 53, 3) := by decide +kernel
theorem dX4_meet_97 : decode cX4_meet 97 = .ok (.ireturn, 1) := by decide +kernel
set_option maxRecDepth 20000 in
theorem ggX4_crowd_X4_isPlace : GoodIn wsX4_crowd wsX4_isPlace := goodIn_r _ [15] (by decide +kernel) (by decide +kernel)
set_option maxRecDepth 20000 in
theorem gX4_crowd_X4_isPlace : GoodIn wsX4_crowd (va_wsS RX4 44 yX4_isPlace wsX4_isPlace) := goodIn_app (goodIn_of _ (by decide +kernel)) ggX4_crowd_X4_isPlace
set_option maxRecDepth 20000 in
theorem ggX4_crowd_X4_isWithin : GoodIn wsX4_crowd wsX4_isWithin := goodIn_r _ [18] (by decide +kernel) (by decide +kernel)
set_option maxRecDepth 20000 in
theorem gX4_crowd_X4_isWithin : GoodIn wsX4_crowd (va_wsS RX4 48 yX4_isWithin wsX4_isWithin) := goodIn_app (goodIn_of _ (by decide +kernel)) ggX4_crowd_X4_isWithin
set_option maxRecDepth 20000 in
theorem ggX4_crowd_X4_found : GoodIn wsX4_crowd wsX4_found := goodIn_r _ [22, 1, 23, 16, 17, 14, 18, 75, 76, 77, 78, 79, 80, 81] (by decide +kernel) (by decide +kernel)
set_option maxRecDepth 20000 in
theorem gX4_crowd_X4_found : GoodIn wsX4_crowd (wsV RX4 53 RX4 yX4_found wsX4_found) := goodIn_app (goodIn_of _ (by decide +kernel)) ggX4_crowd_X4_found
set_option maxRecDepth 20000 in
theorem ggX4_crowd_X3_become : GoodIn wsX4_crowd wsX3_become := goodIn_r _ [28, 29, 30, 31, 32, 33, 34, 35, 36, 37, 38, 39, 40, 41, 42, 82, 83, 84, 85, 86, 87, 88, 89, 90, 91, 92, 93, 94] (by decide +kernel) (by decide +kernel)
set_option maxRecDepth 20000 in
theorem gX4_crowd_X3_become : GoodIn wsX4_crowd (wsV RX4 136 RX3 yX3_become wsX3_become) := goodIn_app (goodIn_of _ (by decide +kernel)) ggX4_crowd_X3_become
set_option maxRecDepth 20000 in
theorem ggX4_crowd_X3_passTuesdays : GoodIn wsX4_crowd wsX3_passTuesdays := goodIn_r _ [46, 40, 38, 47, 48, 6, 7, 8, 34, 35, 49, 41, 50, 51, 52, 27, 53, 54, 55, 56, 57, 58, 59, 13, 14, 15, 60, 61, 62, 63, 36, 64, 10, 11, 65, 66, 67, 68, 29, 37, 69, 70, 71, 72, 73, 74, 82, 83, 84, 85, 86, 87, 88, 89, 90, 91, 92, 93, 94] (by decide +kernel) (by decide +kernel)
set_option maxRecDepth 20000 in
theorem gX4_crowd_X3_passTuesdays : GoodIn wsX4_crowd (wsV RX4 116 RX3 yX3_passTuesdays wsX3_passTuesdays) := goodIn_app (goodIn_of _ (by decide +kernel)) ggX4_crowd_X3_passTuesdays
theorem dX4_crowd_0 : decode cX4_crowd 0 = .ok (.iload_n 1, 1) := by decide +kernel
theorem dX4_crowd_1 : decode cX4_crowd 1 = .ok (.invokestatic 44, 3) := by decide +kernel
theorem dX4_crowd_4 : decode cX4_crowd 4 = .ok (.ifCond .eq 22, 3) := by decide +kernel
theorem dX4_crowd_7 : decode cX4_crowd 7 = .ok (.iload_n 2, 1) := by decide +kernel
theorem dX4_crowd_8 : decode cX4_crowd 8 = .ok (.iconst 1, 1) := by decide +kernel
theorem dX4_crowd_9 : decode cX4_crowd 9 = .ok (.bipush 100, 2) := by decide +kernel
theorem dX4_crowd_11 : decode cX4_crowd 11 = .ok (.invokestatic 48, 3) := by decide +kernel
theorem dX4_crowd_14 : decode cX4_crowd 14 = .ok (.ifCond .eq 12, 3) := by decide +kernel
theorem dX4_crowd_17 : decode cX4_crowd 17 = .ok (.iload_n 3, 1) := by decide +kernel
theorem dX4_crowd_18 : decode cX4_crowd 18 = .ok (.iconst 0, 1) := by decide +kernel
theorem dX4_crowd_19 : decode cX4_crowd 19 = .ok (.iconst 1, 1) := by decide +kernel
theorem dX4_crowd_20 : decode cX4_crowd 20 = .ok (.invokestatic 48, 3) := by decide +kernel
theorem dX4_crowd_23 : decode cX4_crowd 23 = .ok (.ifCond .ne 10, 3) := by decide +kernel
theorem dX4_crowd_26 : decode cX4_crowd 26 = .ok (.aload_n 0, 1) := by decide +kernel
theorem dX4_crowd_27 : decode cX4_crowd 27 = .ok (.ldc 52, 2) := by decide +kernel
theorem dX4_crowd_29 : decode cX4_crowd 29 = .ok (.invokevirtual 53, 3) := by decide +kernel
theorem dX4_crowd_32 : decode cX4_crowd 32 = .ok (.ireturn, 1) := by decide +kernel
theorem dX4_crowd_33 : decode cX4_crowd 33 = .ok (.aload_n 0, 1) := by decide +kernel
theorem dX4_crowd_34 : decode cX4_crowd 34 = .ok (.getfield 19, 3) := by decide +kernel
theorem dX4_crowd_37 : decode cX4_crowd 37 = .ok (.aload_n 0, 1) := by decide +kernel
theorem dX4_crowd_38 : decode cX4_crowd 38 = .ok (.getfield 12, 3) := by decide +kernel
theorem dX4_crowd_41 : decode cX4_crowd 41 = .ok (.invokevirtual 136, 3) := by decide +kernel
theorem dX4_crowd_44 : decode cX4_crowd 44 = .ok (.bipush 8, 2) := by decide +kernel
theorem dX4_crowd_46 : decode cX4_crowd 46 = .ok (.istore 4, 2) := by decide +kernel
theorem dX4_crowd_48 : decode cX4_crowd 48 = .ok (.iconst 0, 1) := by decide +kernel
theorem dX4_crowd_49 : decode cX4_crowd 49 = .ok (.istore 5, 2) := by decide +kernel
theorem dX4_crowd_51 : decode cX4_crowd 51 = .ok (.iconst 0, 1) := by decide +kernel
theorem dX4_crowd_52 : decode cX4_crowd 52 = .ok (.istore 6, 2) := by decide +kernel
theorem dX4_crowd_54 : decode cX4_crowd 54 = .ok (.iload 6, 2) := by decide +kernel
theorem dX4_crowd_56 : decode cX4_crowd 56 = .ok (.iload_n 2, 1) := by decide +kernel
theorem dX4_crowd_57 : decode cX4_crowd 57 = .ok (.if_icmp .ge 49, 3) := by decide +kernel
theorem dX4_crowd_60 : decode cX4_crowd 60 = .ok (.aload_n 0, 1) := by decide +kernel
theorem dX4_crowd_61 : decode cX4_crowd 61 = .ok (.getfield 19, 3) := by decide +kernel
theorem dX4_crowd_64 : decode cX4_crowd 64 = .ok (.iconst 1, 1) := by decide +kernel
theorem dX4_crowd_65 : decode cX4_crowd 65 = .ok (.invokevirtual 116, 3) := by decide +kernel
theorem dX4_crowd_68 : decode cX4_crowd 68 = .ok (.iload 4, 2) := by decide +kernel
theorem dX4_crowd_70 : decode cX4_crowd 70 = .ok (.aload_n 0, 1) := by decide +kernel
theorem dX4_crowd_71 : decode cX4_crowd 71 = .ok (.getfield 19, 3) := by decide +kernel
theorem dX4_crowd_74 : decode cX4_crowd 74 = .ok (.getfield 150, 3) := by decide +kernel
theorem dX4_crowd_77 : decode cX4_crowd 77 = .ok (.iload_n 1, 1) := by decide +kernel
theorem dX4_crowd_78 : decode cX4_crowd 78 = .ok (.iaload, 1) := by decide +kernel
theorem dX4_crowd_79 : decode cX4_crowd 79 = .ok (.invokestatic 153, 3) := by decide +kernel
theorem dX4_crowd_82 : decode cX4_crowd 82 = .ok (.istore 4, 2) := by decide +kernel
theorem dX4_crowd_84 : decode cX4_crowd 84 = .ok (.iload 5, 2) := by decide +kernel
theorem dX4_crowd_86 : decode cX4_crowd 86 = .ok (.aload_n 0, 1) := by decide +kernel
theorem dX4_crowd_87 : decode cX4_crowd 87 = .ok (.getfield 19, 3) := by decide +kernel
theorem dX4_crowd_90 : decode cX4_crowd 90 = .ok (.getfield 150, 3) := by decide +kernel
theorem dX4_crowd_93 : decode cX4_crowd 93 = .ok (.iload_n 1, 1) := by decide +kernel
theorem dX4_crowd_94 : decode cX4_crowd 94 = .ok (.iaload, 1) := by decide +kernel
theorem dX4_crowd_95 : decode cX4_crowd 95 = .ok (.invokestatic 158, 3) := by decide +kernel
theorem dX4_crowd_98 : decode cX4_crowd 98 = .ok (.istore 5, 2) := by decide +kernel
theorem dX4_crowd_100 : decode cX4_crowd 100 = .ok (.iinc 6 1, 3) := by decide +kernel
theorem dX4_crowd_103 : decode cX4_crowd 103 = .ok (.goto (-49), 3) := by decide +kernel
theorem dX4_crowd_106 : decode cX4_crowd 106 = .ok (.iload_n 3, 1) := by decide +kernel
theorem dX4_crowd_107 : decode cX4_crowd 107 = .ok (.ifCond .ne 8, 3) := by decide +kernel
theorem dX4_crowd_110 : decode cX4_crowd 110 = .ok (.iload 4, 2) := by decide +kernel
theorem dX4_crowd_112 : decode cX4_crowd 112 = .ok (.goto 5, 3) := by decide +kernel
theorem dX4_crowd_115 : decode cX4_crowd 115 = .ok (.iload 5, 2) := by decide +kernel
theorem dX4_crowd_117 : decode cX4_crowd 117 = .ok (.ireturn, 1) := by decide +kernel
set_option maxRecDepth 20000 in
theorem ggX4_planFor_X4_richestWith : GoodIn wsX4_planFor wsX4_richestWith := goodIn_r _ [5, 6, 7, 8, 9, 10, 11, 12, 4, 13, 14, 15, 16, 17, 18, 19, 20, 21, 22, 23, 24, 25, 26, 27, 28, 29, 30, 31, 32, 33, 34, 35, 36, 37, 38, 39, 40, 41, 42, 43, 44, 45, 46, 47, 48, 49, 50, 51, 52, 53, 54, 55, 56, 57, 58, 59, 60, 61, 62, 63, 64, 65, 66, 67, 68, 69, 70, 71, 72, 73, 74, 75, 76, 77, 78, 79, 80, 81, 82, 83, 84, 85, 86, 87, 88, 89, 90, 91, 92, 93, 94, 95, 96, 97, 98, 99, 100, 101, 102, 103, 104, 105, 106, 107, 108, 109, 110] (by decide +kernel) (by decide +kernel)
set_option maxRecDepth 20000 in
theorem gX4_planFor_X4_richestWith : GoodIn wsX4_planFor (wsV RX4 161 RX4 yX4_richestWith wsX4_richestWith) := goodIn_app (goodIn_of _ (by decide +kernel)) ggX4_planFor_X4_richestWith
theorem dX4_planFor_0 : decode cX4_planFor 0 = .ok (.aload_n 0, 1) := by decide +kernel
theorem dX4_planFor_1 : decode cX4_planFor 1 = .ok (.iload_n 1, 1) := by decide +kernel
theorem dX4_planFor_2 : decode cX4_planFor 2 = .ok (.iload_n 2, 1) := by decide +kernel
theorem dX4_planFor_3 : decode cX4_planFor 3 = .ok (.iconst 1, 1) := by decide +kernel
theorem dX4_planFor_4 : decode cX4_planFor 4 = .ok (.invokevirtual 161, 3) := by decide +kernel
theorem dX4_planFor_7 : decode cX4_planFor 7 = .ok (.ireturn, 1) := by decide +kernel
set_option maxRecDepth 20000 in
theorem ggX4_kindFor_X4_richestWith : GoodIn wsX4_kindFor wsX4_richestWith := goodIn_r _ [5, 6, 7, 8, 9, 10, 11, 12, 4, 13, 14, 15, 16, 17, 18, 19, 20, 21, 22, 23, 24, 25, 26, 27, 28, 29, 30, 31, 32, 33, 34, 35, 36, 37, 38, 39, 40, 41, 42, 43, 44, 45, 46, 47, 48, 49, 50, 51, 52, 53, 54, 55, 56, 57, 58, 59, 60, 61, 62, 63, 64, 65, 66, 67, 68, 69, 70, 71, 72, 73, 74, 75, 76, 77, 78, 79, 80, 81, 82, 83, 84, 85, 86, 87, 88, 89, 90, 91, 92, 93, 94, 95, 96, 97, 98, 99, 100, 101, 102, 103, 104, 105, 106, 107, 108, 109, 110] (by decide +kernel) (by decide +kernel)
set_option maxRecDepth 20000 in
theorem gX4_kindFor_X4_richestWith : GoodIn wsX4_kindFor (wsV RX4 161 RX4 yX4_richestWith wsX4_richestWith) := goodIn_app (goodIn_of _ (by decide +kernel)) ggX4_kindFor_X4_richestWith
theorem dX4_kindFor_0 : decode cX4_kindFor 0 = .ok (.aload_n 0, 1) := by decide +kernel
theorem dX4_kindFor_1 : decode cX4_kindFor 1 = .ok (.iload_n 1, 1) := by decide +kernel
theorem dX4_kindFor_2 : decode cX4_kindFor 2 = .ok (.iload_n 2, 1) := by decide +kernel
theorem dX4_kindFor_3 : decode cX4_kindFor 3 = .ok (.iconst 0, 1) := by decide +kernel
theorem dX4_kindFor_4 : decode cX4_kindFor 4 = .ok (.invokevirtual 161, 3) := by decide +kernel
theorem dX4_kindFor_7 : decode cX4_kindFor 7 = .ok (.ireturn, 1) := by decide +kernel
set_option maxRecDepth 20000 in
theorem ggX4_looksFor_X4_richestWith : GoodIn wsX4_looksFor wsX4_richestWith := goodIn_r _ [5, 6, 7, 8, 9, 10, 11, 12, 4, 13, 14, 15, 16, 17, 18, 19, 20, 21, 22, 23, 24, 25, 26, 27, 28, 29, 30, 31, 32, 33, 34, 35, 36, 37, 38, 39, 40, 41, 42, 43, 44, 45, 46, 47, 48, 49, 50, 51, 52, 53, 54, 55, 56, 57, 58, 59, 60, 61, 62, 63, 64, 65, 66, 67, 68, 69, 70, 71, 72, 73, 74, 75, 76, 77, 78, 79, 80, 81, 82, 83, 84, 85, 86, 87, 88, 89, 90, 91, 92, 93, 94, 95, 96, 97, 98, 99, 100, 101, 102, 103, 104, 105, 106, 107, 108, 109, 110] (by decide +kernel) (by decide +kernel)
set_option maxRecDepth 20000 in
theorem gX4_looksFor_X4_richestWith : GoodIn wsX4_looksFor (wsV RX4 161 RX4 yX4_richestWith wsX4_richestWith) := goodIn_app (goodIn_of _ (by decide +kernel)) ggX4_looksFor_X4_richestWith
theorem dX4_looksFor_0 : decode cX4_looksFor 0 = .ok (.aload_n 0, 1) := by decide +kernel
theorem dX4_looksFor_1 : decode cX4_looksFor 1 = .ok (.iload_n 1, 1) := by decide +kernel
theorem dX4_looksFor_2 : decode cX4_looksFor 2 = .ok (.iload_n 2, 1) := by decide +kernel
theorem dX4_looksFor_3 : decode cX4_looksFor 3 = .ok (.iconst 2, 1) := by decide +kernel
theorem dX4_looksFor_4 : decode cX4_looksFor 4 = .ok (.invokevirtual 161, 3) := by decide +kernel
theorem dX4_looksFor_7 : decode cX4_looksFor 7 = .ok (.ireturn, 1) := by decide +kernel
set_option maxRecDepth 20000 in
theorem ggX4_loveFor_X4_richestWith : GoodIn wsX4_loveFor wsX4_richestWith := goodIn_r _ [5, 6, 7, 8, 9, 10, 11, 12, 4, 13, 14, 15, 16, 17, 18, 19, 20, 21, 22, 23, 24, 25, 26, 27, 28, 29, 30, 31, 32, 33, 34, 35, 36, 37, 38, 39, 40, 41, 42, 43, 44, 45, 46, 47, 48, 49, 50, 51, 52, 53, 54, 55, 56, 57, 58, 59, 60, 61, 62, 63, 64, 65, 66, 67, 68, 69, 70, 71, 72, 73, 74, 75, 76, 77, 78, 79, 80, 81, 82, 83, 84, 85, 86, 87, 88, 89, 90, 91, 92, 93, 94, 95, 96, 97, 98, 99, 100, 101, 102, 103, 104, 105, 106, 107, 108, 109, 110] (by decide +kernel) (by decide +kernel)
set_option maxRecDepth 20000 in
theorem gX4_loveFor_X4_richestWith : GoodIn wsX4_loveFor (wsV RX4 161 RX4 yX4_richestWith wsX4_richestWith) := goodIn_app (goodIn_of _ (by decide +kernel)) ggX4_loveFor_X4_richestWith
theorem dX4_loveFor_0 : decode cX4_loveFor 0 = .ok (.aload_n 0, 1) := by decide +kernel
theorem dX4_loveFor_1 : decode cX4_loveFor 1 = .ok (.iload_n 1, 1) := by decide +kernel
theorem dX4_loveFor_2 : decode cX4_loveFor 2 = .ok (.iload_n 2, 1) := by decide +kernel
theorem dX4_loveFor_3 : decode cX4_loveFor 3 = .ok (.iconst 3, 1) := by decide +kernel
theorem dX4_loveFor_4 : decode cX4_loveFor 4 = .ok (.invokevirtual 161, 3) := by decide +kernel
theorem dX4_loveFor_7 : decode cX4_loveFor 7 = .ok (.ireturn, 1) := by decide +kernel
set_option maxRecDepth 20000 in
theorem ggX4_prizeFor_X4_isPlace : GoodIn wsX4_prizeFor wsX4_isPlace := goodIn_r _ [10] (by decide +kernel) (by decide +kernel)
set_option maxRecDepth 20000 in
theorem gX4_prizeFor_X4_isPlace : GoodIn wsX4_prizeFor (va_wsS RX4 44 yX4_isPlace wsX4_isPlace) := goodIn_app (goodIn_of _ (by decide +kernel)) ggX4_prizeFor_X4_isPlace
set_option maxRecDepth 20000 in
theorem ggX4_prizeFor_X4_isWithin : GoodIn wsX4_prizeFor wsX4_isWithin := goodIn_r _ [13] (by decide +kernel) (by decide +kernel)
set_option maxRecDepth 20000 in
theorem gX4_prizeFor_X4_isWithin : GoodIn wsX4_prizeFor (va_wsS RX4 48 yX4_isWithin wsX4_isWithin) := goodIn_app (goodIn_of _ (by decide +kernel)) ggX4_prizeFor_X4_isWithin
set_option maxRecDepth 20000 in
theorem ggX4_prizeFor_X4_found : GoodIn wsX4_prizeFor wsX4_found := goodIn_r _ [17, 1, 18, 11, 12, 9, 13, 64, 65, 66, 67, 68, 69, 70] (by decide +kernel) (by decide +kernel)
set_option maxRecDepth 20000 in
theorem gX4_prizeFor_X4_found : GoodIn wsX4_prizeFor (wsV RX4 53 RX4 yX4_found wsX4_found) := goodIn_app (goodIn_of _ (by decide +kernel)) ggX4_prizeFor_X4_found
set_option maxRecDepth 20000 in
theorem ggX4_prizeFor_X3_become : GoodIn wsX4_prizeFor wsX3_become := goodIn_r _ [23, 24, 25, 26, 27, 28, 29, 30, 31, 32, 33, 34, 35, 36, 37, 71, 72, 73, 74, 75, 76, 77, 78, 79, 80, 81, 82, 83] (by decide +kernel) (by decide +kernel)
set_option maxRecDepth 20000 in
theorem gX4_prizeFor_X3_become : GoodIn wsX4_prizeFor (wsV RX4 136 RX3 yX3_become wsX3_become) := goodIn_app (goodIn_of _ (by decide +kernel)) ggX4_prizeFor_X3_become
set_option maxRecDepth 20000 in
theorem ggX4_prizeFor_X3_settle : GoodIn wsX4_prizeFor wsX3_settle := goodIn_r _ [41, 42, 43, 35, 30, 44, 45, 46, 47, 48, 8, 9, 10, 49, 50, 51, 22, 52, 31, 53, 54, 55, 56, 57, 58, 59, 60, 61, 62, 63, 24, 32, 29, 71, 72, 73, 74, 75, 76, 77, 78, 79, 80, 81, 82, 83] (by decide +kernel) (by decide +kernel)
set_option maxRecDepth 20000 in
theorem gX4_prizeFor_X3_settle : GoodIn wsX4_prizeFor (wsV RX4 60 RX3 yX3_settle wsX3_settle) := goodIn_app (goodIn_of _ (by decide +kernel)) ggX4_prizeFor_X3_settle
theorem dX4_prizeFor_0 : decode cX4_prizeFor 0 = .ok (.iload_n 1, 1) := by decide +kernel
theorem dX4_prizeFor_1 : decode cX4_prizeFor 1 = .ok (.invokestatic 44, 3) := by decide +kernel
theorem dX4_prizeFor_4 : decode cX4_prizeFor 4 = .ok (.ifCond .eq 13, 3) := by decide +kernel
theorem dX4_prizeFor_7 : decode cX4_prizeFor 7 = .ok (.iload_n 2, 1) := by decide +kernel
theorem dX4_prizeFor_8 : decode cX4_prizeFor 8 = .ok (.iconst 0, 1) := by decide +kernel
theorem dX4_prizeFor_9 : decode cX4_prizeFor 9 = .ok (.bipush 8, 2) := by decide +kernel
theorem dX4_prizeFor_11 : decode cX4_prizeFor 11 = .ok (.invokestatic 48, 3) := by decide +kernel
theorem dX4_prizeFor_14 : decode cX4_prizeFor 14 = .ok (.ifCond .ne 10, 3) := by decide +kernel
theorem dX4_prizeFor_17 : decode cX4_prizeFor 17 = .ok (.aload_n 0, 1) := by decide +kernel
theorem dX4_prizeFor_18 : decode cX4_prizeFor 18 = .ok (.ldc 52, 2) := by decide +kernel
theorem dX4_prizeFor_20 : decode cX4_prizeFor 20 = .ok (.invokevirtual 53, 3) := by decide +kernel
theorem dX4_prizeFor_23 : decode cX4_prizeFor 23 = .ok (.ireturn, 1) := by decide +kernel
theorem dX4_prizeFor_24 : decode cX4_prizeFor 24 = .ok (.aload_n 0, 1) := by decide +kernel
theorem dX4_prizeFor_25 : decode cX4_prizeFor 25 = .ok (.getfield 19, 3) := by decide +kernel
theorem dX4_prizeFor_28 : decode cX4_prizeFor 28 = .ok (.aload_n 0, 1) := by decide +kernel
theorem dX4_prizeFor_29 : decode cX4_prizeFor 29 = .ok (.getfield 12, 3) := by decide +kernel
theorem dX4_prizeFor_32 : decode cX4_prizeFor 32 = .ok (.invokevirtual 136, 3) := by decide +kernel
theorem dX4_prizeFor_35 : decode cX4_prizeFor 35 = .ok (.iconst 0, 1) := by decide +kernel
theorem dX4_prizeFor_36 : decode cX4_prizeFor 36 = .ok (.istore_n 3, 1) := by decide +kernel
theorem dX4_prizeFor_37 : decode cX4_prizeFor 37 = .ok (.iload_n 3, 1) := by decide +kernel
theorem dX4_prizeFor_38 : decode cX4_prizeFor 38 = .ok (.sipush 200, 3) := by decide +kernel
theorem dX4_prizeFor_41 : decode cX4_prizeFor 41 = .ok (.if_icmp .gt 41, 3) := by decide +kernel
theorem dX4_prizeFor_44 : decode cX4_prizeFor 44 = .ok (.aload_n 0, 1) := by decide +kernel
theorem dX4_prizeFor_45 : decode cX4_prizeFor 45 = .ok (.getfield 19, 3) := by decide +kernel
theorem dX4_prizeFor_48 : decode cX4_prizeFor 48 = .ok (.getfield 57, 3) := by decide +kernel
theorem dX4_prizeFor_51 : decode cX4_prizeFor 51 = .ok (.iload_n 1, 1) := by decide +kernel
theorem dX4_prizeFor_52 : decode cX4_prizeFor 52 = .ok (.iload_n 3, 1) := by decide +kernel
theorem dX4_prizeFor_53 : decode cX4_prizeFor 53 = .ok (.iastore, 1) := by decide +kernel
theorem dX4_prizeFor_54 : decode cX4_prizeFor 54 = .ok (.aload_n 0, 1) := by decide +kernel
theorem dX4_prizeFor_55 : decode cX4_prizeFor 55 = .ok (.getfield 19, 3) := by decide +kernel
theorem dX4_prizeFor_58 : decode cX4_prizeFor 58 = .ok (.invokevirtual 60, 3) := by decide +kernel
theorem dX4_prizeFor_61 : decode cX4_prizeFor 61 = .ok (.aload_n 0, 1) := by decide +kernel
theorem dX4_prizeFor_62 : decode cX4_prizeFor 62 = .ok (.getfield 19, 3) := by decide +kernel
theorem dX4_prizeFor_65 : decode cX4_prizeFor 65 = .ok (.getfield 150, 3) := by decide +kernel
theorem dX4_prizeFor_68 : decode cX4_prizeFor 68 = .ok (.iload_n 1, 1) := by decide +kernel
theorem dX4_prizeFor_69 : decode cX4_prizeFor 69 = .ok (.iaload, 1) := by decide +kernel
theorem dX4_prizeFor_70 : decode cX4_prizeFor 70 = .ok (.iload_n 2, 1) := by decide +kernel
theorem dX4_prizeFor_71 : decode cX4_prizeFor 71 = .ok (.if_icmp .lt 5, 3) := by decide +kernel
theorem dX4_prizeFor_74 : decode cX4_prizeFor 74 = .ok (.iload_n 3, 1) := by decide +kernel
theorem dX4_prizeFor_75 : decode cX4_prizeFor 75 = .ok (.ireturn, 1) := by decide +kernel
theorem dX4_prizeFor_76 : decode cX4_prizeFor 76 = .ok (.iinc 3 1, 3) := by decide +kernel
theorem dX4_prizeFor_79 : decode cX4_prizeFor 79 = .ok (.goto (-42), 3) := by decide +kernel
theorem dX4_prizeFor_82 : decode cX4_prizeFor 82 = .ok (.aload_n 0, 1) := by decide +kernel
theorem dX4_prizeFor_83 : decode cX4_prizeFor 83 = .ok (.ldc 103, 2) := by decide +kernel
theorem dX4_prizeFor_85 : decode cX4_prizeFor 85 = .ok (.invokevirtual 53, 3) := by decide +kernel
theorem dX4_prizeFor_88 : decode cX4_prizeFor 88 = .ok (.ireturn, 1) := by decide +kernel
set_option maxRecDepth 20000 in
theorem ggX4_tell_X4_isPlace : GoodIn wsX4_tell wsX4_isPlace := goodIn_r _ [8] (by decide +kernel) (by decide +kernel)
set_option maxRecDepth 20000 in
theorem gX4_tell_X4_isPlace : GoodIn wsX4_tell (va_wsS RX4 44 yX4_isPlace wsX4_isPlace) := goodIn_app (goodIn_of _ (by decide +kernel)) ggX4_tell_X4_isPlace
set_option maxRecDepth 20000 in
theorem ggX4_tell_X4_isWithin : GoodIn wsX4_tell wsX4_isWithin := goodIn_r _ [11] (by decide +kernel) (by decide +kernel)
set_option maxRecDepth 20000 in
theorem gX4_tell_X4_isWithin : GoodIn wsX4_tell (va_wsS RX4 48 yX4_isWithin wsX4_isWithin) := goodIn_app (goodIn_of _ (by decide +kernel)) ggX4_tell_X4_isWithin
set_option maxRecDepth 20000 in
theorem ggX4_tell_X4_found : GoodIn wsX4_tell wsX4_found := goodIn_r _ [15, 1, 16, 9, 10, 7, 11, 76, 77, 78, 79, 80, 81, 82] (by decide +kernel) (by decide +kernel)
set_option maxRecDepth 20000 in
theorem gX4_tell_X4_found : GoodIn wsX4_tell (wsV RX4 53 RX4 yX4_found wsX4_found) := goodIn_app (goodIn_of _ (by decide +kernel)) ggX4_tell_X4_found
set_option maxRecDepth 20000 in
theorem ggX4_tell_J6_bitCount_0f7a4 : GoodIn wsX4_tell wsJ6_bitCount_0f7a4 := goodIn_r _ [20, 21, 22, 23] (by decide +kernel) (by decide +kernel)
set_option maxRecDepth 20000 in
theorem gX4_tell_J6_bitCount_0f7a4 : GoodIn wsX4_tell (va_wsS RX4 168 yJ6_bitCount_0f7a4 wsJ6_bitCount_0f7a4) := goodIn_app (goodIn_of _ (by decide +kernel)) ggX4_tell_J6_bitCount_0f7a4
set_option maxRecDepth 20000 in
theorem ggX4_tell_X4_comersIfTold : GoodIn wsX4_tell wsX4_comersIfTold := goodIn_r _ [27, 28, 2, 3, 29, 30, 31, 32, 33, 34, 35, 36, 37, 38, 39, 40, 41, 42, 43, 44, 45, 46, 47, 48, 49, 50, 51, 52, 53, 54, 55, 56, 57, 58, 59, 60, 6, 7, 8, 61, 62, 63, 64, 65, 66, 67, 68, 69, 70, 71, 72, 73, 74, 75, 76, 77, 78, 79, 80, 81, 82, 83, 84, 85, 86, 87, 88, 89, 90, 91, 92, 93, 94, 95] (by decide +kernel) (by decide +kernel)
set_option maxRecDepth 20000 in
theorem gX4_tell_X4_comersIfTold : GoodIn wsX4_tell (wsV RX4 173 RX4 yX4_comersIfTold wsX4_comersIfTold) := goodIn_app (goodIn_of _ (by decide +kernel)) ggX4_tell_X4_comersIfTold
theorem dX4_tell_0 : decode cX4_tell 0 = .ok (.iload_n 1, 1) := by decide +kernel
theorem dX4_tell_1 : decode cX4_tell 1 = .ok (.invokestatic 44, 3) := by decide +kernel
theorem dX4_tell_4 : decode cX4_tell 4 = .ok (.ifCond .eq 13, 3) := by decide +kernel
theorem dX4_tell_7 : decode cX4_tell 7 = .ok (.iload_n 2, 1) := by decide +kernel
theorem dX4_tell_8 : decode cX4_tell 8 = .ok (.iconst 0, 1) := by decide +kernel
theorem dX4_tell_9 : decode cX4_tell 9 = .ok (.bipush 8, 2) := by decide +kernel
theorem dX4_tell_11 : decode cX4_tell 11 = .ok (.invokestatic 48, 3) := by decide +kernel
theorem dX4_tell_14 : decode cX4_tell 14 = .ok (.ifCond .ne 10, 3) := by decide +kernel
theorem dX4_tell_17 : decode cX4_tell 17 = .ok (.aload_n 0, 1) := by decide +kernel
theorem dX4_tell_18 : decode cX4_tell 18 = .ok (.ldc 52, 2) := by decide +kernel
theorem dX4_tell_20 : decode cX4_tell 20 = .ok (.invokevirtual 53, 3) := by decide +kernel
theorem dX4_tell_23 : decode cX4_tell 23 = .ok (.ireturn, 1) := by decide +kernel
theorem dX4_tell_24 : decode cX4_tell 24 = .ok (.iconst (-1), 1) := by decide +kernel
theorem dX4_tell_25 : decode cX4_tell 25 = .ok (.istore_n 3, 1) := by decide +kernel
theorem dX4_tell_26 : decode cX4_tell 26 = .ok (.iconst 0, 1) := by decide +kernel
theorem dX4_tell_27 : decode cX4_tell 27 = .ok (.istore 4, 2) := by decide +kernel
theorem dX4_tell_29 : decode cX4_tell 29 = .ok (.iload 4, 2) := by decide +kernel
theorem dX4_tell_31 : decode cX4_tell 31 = .ok (.iconst 1, 1) := by decide +kernel
theorem dX4_tell_32 : decode cX4_tell 32 = .ok (.aload_n 0, 1) := by decide +kernel
theorem dX4_tell_33 : decode cX4_tell 33 = .ok (.getfield 12, 3) := by decide +kernel
theorem dX4_tell_36 : decode cX4_tell 36 = .ok (.getfield 165, 3) := by decide +kernel
theorem dX4_tell_39 : decode cX4_tell 39 = .ok (.ishl, 1) := by decide +kernel
theorem dX4_tell_40 : decode cX4_tell 40 = .ok (.if_icmp .ge 51, 3) := by decide +kernel
theorem dX4_tell_43 : decode cX4_tell 43 = .ok (.iload_n 3, 1) := by decide +kernel
theorem dX4_tell_44 : decode cX4_tell 44 = .ok (.ifCond .lt 15, 3) := by decide +kernel
theorem dX4_tell_47 : decode cX4_tell 47 = .ok (.iload 4, 2) := by decide +kernel
theorem dX4_tell_49 : decode cX4_tell 49 = .ok (.invokestatic 168, 3) := by decide +kernel
theorem dX4_tell_52 : decode cX4_tell 52 = .ok (.iload_n 3, 1) := by decide +kernel
theorem dX4_tell_53 : decode cX4_tell 53 = .ok (.invokestatic 168, 3) := by decide +kernel
theorem dX4_tell_56 : decode cX4_tell 56 = .ok (.if_icmp .ge 7, 3) := by decide +kernel
theorem dX4_tell_59 : decode cX4_tell 59 = .ok (.iconst 1, 1) := by decide +kernel
theorem dX4_tell_60 : decode cX4_tell 60 = .ok (.goto 4, 3) := by decide +kernel
theorem dX4_tell_63 : decode cX4_tell 63 = .ok (.iconst 0, 1) := by decide +kernel
theorem dX4_tell_64 : decode cX4_tell 64 = .ok (.istore 5, 2) := by decide +kernel
theorem dX4_tell_66 : decode cX4_tell 66 = .ok (.iload 5, 2) := by decide +kernel
theorem dX4_tell_68 : decode cX4_tell 68 = .ok (.ifCond .eq 17, 3) := by decide +kernel
theorem dX4_tell_71 : decode cX4_tell 71 = .ok (.aload_n 0, 1) := by decide +kernel
theorem dX4_tell_72 : decode cX4_tell 72 = .ok (.iload 4, 2) := by decide +kernel
theorem dX4_tell_74 : decode cX4_tell 74 = .ok (.iload_n 1, 1) := by decide +kernel
theorem dX4_tell_75 : decode cX4_tell 75 = .ok (.invokevirtual 173, 3) := by decide +kernel
theorem dX4_tell_78 : decode cX4_tell 78 = .ok (.iload_n 2, 1) := by decide +kernel
theorem dX4_tell_79 : decode cX4_tell 79 = .ok (.if_icmp .lt 6, 3) := by decide +kernel
theorem dX4_tell_82 : decode cX4_tell 82 = .ok (.iload 4, 2) := by decide +kernel
theorem dX4_tell_84 : decode cX4_tell 84 = .ok (.istore_n 3, 1) := by decide +kernel
theorem dX4_tell_85 : decode cX4_tell 85 = .ok (.iinc 4 1, 3) := by decide +kernel
theorem dX4_tell_88 : decode cX4_tell 88 = .ok (.goto (-59), 3) := by decide +kernel
theorem dX4_tell_91 : decode cX4_tell 91 = .ok (.iload_n 3, 1) := by decide +kernel
theorem dX4_tell_92 : decode cX4_tell 92 = .ok (.ifCond .ge 12, 3) := by decide +kernel
theorem dX4_tell_95 : decode cX4_tell 95 = .ok (.aload_n 0, 1) := by decide +kernel
theorem dX4_tell_96 : decode cX4_tell 96 = .ok (.ldc 103, 2) := by decide +kernel
theorem dX4_tell_98 : decode cX4_tell 98 = .ok (.invokevirtual 53, 3) := by decide +kernel
theorem dX4_tell_101 : decode cX4_tell 101 = .ok (.goto 4, 3) := by decide +kernel
theorem dX4_tell_104 : decode cX4_tell 104 = .ok (.iload_n 3, 1) := by decide +kernel
theorem dX4_tell_105 : decode cX4_tell 105 = .ok (.ireturn, 1) := by decide +kernel
set_option maxRecDepth 20000 in
theorem ggX4_away_X4_found : GoodIn wsX4_away wsX4_found := goodIn_r _ [11, 12, 13, 14, 15, 10, 16, 79, 80, 81, 82, 83, 84, 85] (by decide +kernel) (by decide +kernel)
set_option maxRecDepth 20000 in
theorem gX4_away_X4_found : GoodIn wsX4_away (wsV RX4 53 RX4 yX4_found wsX4_found) := goodIn_app (goodIn_of _ (by decide +kernel)) ggX4_away_X4_found
set_option maxRecDepth 20000 in
theorem ggX4_away_X3_become : GoodIn wsX4_away wsX3_become := goodIn_r _ [21, 22, 23, 24, 25, 26, 27, 28, 29, 30, 31, 32, 33, 34, 35, 86, 87, 88, 89, 90, 91, 92, 93, 94, 95, 96, 97, 98] (by decide +kernel) (by decide +kernel)
set_option maxRecDepth 20000 in
theorem gX4_away_X3_become : GoodIn wsX4_away (wsV RX4 136 RX3 yX3_become wsX3_become) := goodIn_app (goodIn_of _ (by decide +kernel)) ggX4_away_X3_become
set_option maxRecDepth 20000 in
theorem ggX4_away_X3_passTuesdays : GoodIn wsX4_away wsX3_passTuesdays := goodIn_r _ [39, 33, 31, 40, 41, 42, 43, 44, 27, 28, 45, 34, 46, 47, 48, 20, 49, 50, 51, 52, 53, 54, 55, 56, 10, 57, 58, 59, 60, 61, 29, 62, 63, 64, 65, 66, 67, 68, 22, 30, 69, 70, 71, 72, 73, 74, 86, 87, 88, 89, 90, 91, 92, 93, 94, 95, 96, 97, 98] (by decide +kernel) (by decide +kernel)
set_option maxRecDepth 20000 in
theorem gX4_away_X3_passTuesdays : GoodIn wsX4_away (wsV RX4 116 RX3 yX3_passTuesdays wsX3_passTuesdays) := goodIn_app (goodIn_of _ (by decide +kernel)) ggX4_away_X3_passTuesdays
set_option maxRecDepth 20000 in
theorem ggX4_away_X3_goodsOfAll : GoodIn wsX4_away wsX3_goodsOfAll := goodIn_r _ [78, 33, 31, 86, 87, 88, 89, 90, 91, 92, 93, 94, 95, 96, 97, 98] (by decide +kernel) (by decide +kernel)
set_option maxRecDepth 20000 in
theorem gX4_away_X3_goodsOfAll : GoodIn wsX4_away (wsV RX4 120 RX3 yX3_goodsOfAll wsX3_goodsOfAll) := goodIn_app (goodIn_of _ (by decide +kernel)) ggX4_away_X3_goodsOfAll
theorem dX4_away_0 : decode cX4_away 0 = .ok (.aload_n 0, 1) := by decide +kernel
theorem dX4_away_1 : decode cX4_away 1 = .ok (.getfield 12, 3) := by decide +kernel
theorem dX4_away_4 : decode cX4_away 4 = .ok (.getfield 165, 3) := by decide +kernel
theorem dX4_away_7 : decode cX4_away 7 = .ok (.ifCond .ne 10, 3) := by decide +kernel
theorem dX4_away_10 : decode cX4_away 10 = .ok (.aload_n 0, 1) := by decide +kernel
theorem dX4_away_11 : decode cX4_away 11 = .ok (.ldc 103, 2) := by decide +kernel
theorem dX4_away_13 : decode cX4_away 13 = .ok (.invokevirtual 53, 3) := by decide +kernel
theorem dX4_away_16 : decode cX4_away 16 = .ok (.ireturn, 1) := by decide +kernel
theorem dX4_away_17 : decode cX4_away 17 = .ok (.iconst 0, 1) := by decide +kernel
theorem dX4_away_18 : decode cX4_away 18 = .ok (.istore_n 1, 1) := by decide +kernel
theorem dX4_away_19 : decode cX4_away 19 = .ok (.iconst (-1), 1) := by decide +kernel
theorem dX4_away_20 : decode cX4_away 20 = .ok (.istore_n 2, 1) := by decide +kernel
theorem dX4_away_21 : decode cX4_away 21 = .ok (.iconst 0, 1) := by decide +kernel
theorem dX4_away_22 : decode cX4_away 22 = .ok (.istore_n 3, 1) := by decide +kernel
theorem dX4_away_23 : decode cX4_away 23 = .ok (.iload_n 3, 1) := by decide +kernel
theorem dX4_away_24 : decode cX4_away 24 = .ok (.aload_n 0, 1) := by decide +kernel
theorem dX4_away_25 : decode cX4_away 25 = .ok (.getfield 12, 3) := by decide +kernel
theorem dX4_away_28 : decode cX4_away 28 = .ok (.getfield 165, 3) := by decide +kernel
theorem dX4_away_31 : decode cX4_away 31 = .ok (.if_icmp .ge 68, 3) := by decide +kernel
theorem dX4_away_34 : decode cX4_away 34 = .ok (.aload_n 0, 1) := by decide +kernel
theorem dX4_away_35 : decode cX4_away 35 = .ok (.getfield 19, 3) := by decide +kernel
theorem dX4_away_38 : decode cX4_away 38 = .ok (.aload_n 0, 1) := by decide +kernel
theorem dX4_away_39 : decode cX4_away 39 = .ok (.getfield 12, 3) := by decide +kernel
theorem dX4_away_42 : decode cX4_away 42 = .ok (.invokevirtual 136, 3) := by decide +kernel
theorem dX4_away_45 : decode cX4_away 45 = .ok (.aload_n 0, 1) := by decide +kernel
theorem dX4_away_46 : decode cX4_away 46 = .ok (.getfield 19, 3) := by decide +kernel
theorem dX4_away_49 : decode cX4_away 49 = .ok (.getfield 143, 3) := by decide +kernel
theorem dX4_away_52 : decode cX4_away 52 = .ok (.iload_n 3, 1) := by decide +kernel
theorem dX4_away_53 : decode cX4_away 53 = .ok (.iconst (-1), 1) := by decide +kernel
theorem dX4_away_54 : decode cX4_away 54 = .ok (.iastore, 1) := by decide +kernel
theorem dX4_away_55 : decode cX4_away 55 = .ok (.aload_n 0, 1) := by decide +kernel
theorem dX4_away_56 : decode cX4_away 56 = .ok (.getfield 19, 3) := by decide +kernel
theorem dX4_away_59 : decode cX4_away 59 = .ok (.iconst 1, 1) := by decide +kernel
theorem dX4_away_60 : decode cX4_away 60 = .ok (.invokevirtual 116, 3) := by decide +kernel
theorem dX4_away_63 : decode cX4_away 63 = .ok (.aload_n 0, 1) := by decide +kernel
theorem dX4_away_64 : decode cX4_away 64 = .ok (.getfield 19, 3) := by decide +kernel
theorem dX4_away_67 : decode cX4_away 67 = .ok (.invokevirtual 120, 3) := by decide +kernel
theorem dX4_away_70 : decode cX4_away 70 = .ok (.aload_n 0, 1) := by decide +kernel
theorem dX4_away_71 : decode cX4_away 71 = .ok (.getfield 19, 3) := by decide +kernel
theorem dX4_away_74 : decode cX4_away 74 = .ok (.getfield 140, 3) := by decide +kernel
theorem dX4_away_77 : decode cX4_away 77 = .ok (.iload_n 3, 1) := by decide +kernel
theorem dX4_away_78 : decode cX4_away 78 = .ok (.iaload, 1) := by decide +kernel
theorem dX4_away_79 : decode cX4_away 79 = .ok (.isub, 1) := by decide +kernel
theorem dX4_away_80 : decode cX4_away 80 = .ok (.istore 4, 2) := by decide +kernel
theorem dX4_away_82 : decode cX4_away 82 = .ok (.iload 4, 2) := by decide +kernel
theorem dX4_away_84 : decode cX4_away 84 = .ok (.iload_n 2, 1) := by decide +kernel
theorem dX4_away_85 : decode cX4_away 85 = .ok (.if_icmp .le 8, 3) := by decide +kernel
theorem dX4_away_88 : decode cX4_away 88 = .ok (.iload_n 3, 1) := by decide +kernel
theorem dX4_away_89 : decode cX4_away 89 = .ok (.istore_n 1, 1) := by decide +kernel
theorem dX4_away_90 : decode cX4_away 90 = .ok (.iload 4, 2) := by decide +kernel
theorem dX4_away_92 : decode cX4_away 92 = .ok (.istore_n 2, 1) := by decide +kernel
theorem dX4_away_93 : decode cX4_away 93 = .ok (.iinc 3 1, 3) := by decide +kernel
theorem dX4_away_96 : decode cX4_away 96 = .ok (.goto (-73), 3) := by decide +kernel
theorem dX4_away_99 : decode cX4_away 99 = .ok (.iload_n 1, 1) := by decide +kernel
theorem dX4_away_100 : decode cX4_away 100 = .ok (.ireturn, 1) := by decide +kernel
set_option maxRecDepth 20000 in
theorem ggX4_swapFor_X4_isWithin : GoodIn wsX4_swapFor wsX4_isWithin := goodIn_r _ [8] (by decide +kernel) (by decide +kernel)
set_option maxRecDepth 20000 in
theorem gX4_swapFor_X4_isWithin : GoodIn wsX4_swapFor (va_wsS RX4 48 yX4_isWithin wsX4_isWithin) := goodIn_app (goodIn_of _ (by decide +kernel)) ggX4_swapFor_X4_isWithin
set_option maxRecDepth 20000 in
theorem ggX4_swapFor_X4_found : GoodIn wsX4_swapFor wsX4_found := goodIn_r _ [12, 1, 13, 5, 6, 7, 8, 82, 83, 84, 85, 86, 87, 88] (by decide +kernel) (by decide +kernel)
set_option maxRecDepth 20000 in
theorem gX4_swapFor_X4_found : GoodIn wsX4_swapFor (wsV RX4 53 RX4 yX4_found wsX4_found) := goodIn_app (goodIn_of _ (by decide +kernel)) ggX4_swapFor_X4_found
set_option maxRecDepth 20000 in
theorem ggX4_swapFor_X4_goodsIfSwapped : GoodIn wsX4_swapFor wsX4_goodsIfSwapped := goodIn_r _ [17, 18, 2, 19, 20, 21, 22, 23, 24, 25, 26, 27, 28, 29, 30, 31, 32, 33, 34, 35, 36, 37, 38, 39, 40, 41, 42, 43, 44, 45, 46, 47, 48, 49, 50, 51, 52, 53, 54, 55, 56, 57, 58, 59, 7, 60, 61, 62, 63, 64, 65, 66, 67, 68, 69, 70, 71, 72, 73, 74, 75, 76, 77, 78, 79, 80, 81, 82, 83, 84, 85, 86, 87, 88, 89, 90, 91, 92, 93, 94, 95, 96, 97, 98, 99, 100, 101] (by decide +kernel) (by decide +kernel)
set_option maxRecDepth 20000 in
theorem gX4_swapFor_X4_goodsIfSwapped : GoodIn wsX4_swapFor (wsV RX4 176 RX4 yX4_goodsIfSwapped wsX4_goodsIfSwapped) := goodIn_app (goodIn_of _ (by decide +kernel)) ggX4_swapFor_X4_goodsIfSwapped
theorem dX4_swapFor_0 : decode cX4_swapFor 0 = .ok (.iload_n 1, 1) := by decide +kernel
theorem dX4_swapFor_1 : decode cX4_swapFor 1 = .ok (.iconst 0, 1) := by decide +kernel
theorem dX4_swapFor_2 : decode cX4_swapFor 2 = .ok (.bipush 40, 2) := by decide +kernel
theorem dX4_swapFor_4 : decode cX4_swapFor 4 = .ok (.invokestatic 48, 3) := by decide +kernel
theorem dX4_swapFor_7 : decode cX4_swapFor 7 = .ok (.ifCond .ne 10, 3) := by decide +kernel
theorem dX4_swapFor_10 : decode cX4_swapFor 10 = .ok (.aload_n 0, 1) := by decide +kernel
theorem dX4_swapFor_11 : decode cX4_swapFor 11 = .ok (.ldc 52, 2) := by decide +kernel
theorem dX4_swapFor_13 : decode cX4_swapFor 13 = .ok (.invokevirtual 53, 3) := by decide +kernel
theorem dX4_swapFor_16 : decode cX4_swapFor 16 = .ok (.ireturn, 1) := by decide +kernel
theorem dX4_swapFor_17 : decode cX4_swapFor 17 = .ok (.aload_n 0, 1) := by decide +kernel
theorem dX4_swapFor_18 : decode cX4_swapFor 18 = .ok (.getfield 12, 3) := by decide +kernel
theorem dX4_swapFor_21 : decode cX4_swapFor 21 = .ok (.getfield 165, 3) := by decide +kernel
theorem dX4_swapFor_24 : decode cX4_swapFor 24 = .ok (.iconst 2, 1) := by decide +kernel
theorem dX4_swapFor_25 : decode cX4_swapFor 25 = .ok (.if_icmp .ge 10, 3) := by decide +kernel
theorem dX4_swapFor_28 : decode cX4_swapFor 28 = .ok (.aload_n 0, 1) := by decide +kernel
theorem dX4_swapFor_29 : decode cX4_swapFor 29 = .ok (.ldc 103, 2) := by decide +kernel
theorem dX4_swapFor_31 : decode cX4_swapFor 31 = .ok (.invokevirtual 53, 3) := by decide +kernel
theorem dX4_swapFor_34 : decode cX4_swapFor 34 = .ok (.ireturn, 1) := by decide +kernel
theorem dX4_swapFor_35 : decode cX4_swapFor 35 = .ok (.iconst 0, 1) := by decide +kernel
theorem dX4_swapFor_36 : decode cX4_swapFor 36 = .ok (.istore_n 2, 1) := by decide +kernel
theorem dX4_swapFor_37 : decode cX4_swapFor 37 = .ok (.iconst (-1), 1) := by decide +kernel
theorem dX4_swapFor_38 : decode cX4_swapFor 38 = .ok (.istore_n 3, 1) := by decide +kernel
theorem dX4_swapFor_39 : decode cX4_swapFor 39 = .ok (.iconst 0, 1) := by decide +kernel
theorem dX4_swapFor_40 : decode cX4_swapFor 40 = .ok (.istore 4, 2) := by decide +kernel
theorem dX4_swapFor_42 : decode cX4_swapFor 42 = .ok (.iload 4, 2) := by decide +kernel
theorem dX4_swapFor_44 : decode cX4_swapFor 44 = .ok (.aload_n 0, 1) := by decide +kernel
theorem dX4_swapFor_45 : decode cX4_swapFor 45 = .ok (.getfield 12, 3) := by decide +kernel
theorem dX4_swapFor_48 : decode cX4_swapFor 48 = .ok (.getfield 165, 3) := by decide +kernel
theorem dX4_swapFor_51 : decode cX4_swapFor 51 = .ok (.if_icmp .ge 62, 3) := by decide +kernel
theorem dX4_swapFor_54 : decode cX4_swapFor 54 = .ok (.iload 4, 2) := by decide +kernel
theorem dX4_swapFor_56 : decode cX4_swapFor 56 = .ok (.iconst 1, 1) := by decide +kernel
theorem dX4_swapFor_57 : decode cX4_swapFor 57 = .ok (.iadd, 1) := by decide +kernel
theorem dX4_swapFor_58 : decode cX4_swapFor 58 = .ok (.istore 5, 2) := by decide +kernel
theorem dX4_swapFor_60 : decode cX4_swapFor 60 = .ok (.iload 5, 2) := by decide +kernel
theorem dX4_swapFor_62 : decode cX4_swapFor 62 = .ok (.aload_n 0, 1) := by decide +kernel
theorem dX4_swapFor_63 : decode cX4_swapFor 63 = .ok (.getfield 12, 3) := by decide +kernel
theorem dX4_swapFor_66 : decode cX4_swapFor 66 = .ok (.getfield 165, 3) := by decide +kernel
theorem dX4_swapFor_69 : decode cX4_swapFor 69 = .ok (.if_icmp .ge 38, 3) := by decide +kernel
theorem dX4_swapFor_72 : decode cX4_swapFor 72 = .ok (.aload_n 0, 1) := by decide +kernel
theorem dX4_swapFor_73 : decode cX4_swapFor 73 = .ok (.iload 4, 2) := by decide +kernel
theorem dX4_swapFor_75 : decode cX4_swapFor 75 = .ok (.iload 5, 2) := by decide +kernel
theorem dX4_swapFor_77 : decode cX4_swapFor 77 = .ok (.iload_n 1, 1) := by decide +kernel
theorem dX4_swapFor_78 : decode cX4_swapFor 78 = .ok (.invokevirtual 176, 3) := by decide +kernel
theorem dX4_swapFor_81 : decode cX4_swapFor 81 = .ok (.istore 6, 2) := by decide +kernel
theorem dX4_swapFor_83 : decode cX4_swapFor 83 = .ok (.iload 6, 2) := by decide +kernel
theorem dX4_swapFor_85 : decode cX4_swapFor 85 = .ok (.iload_n 3, 1) := by decide +kernel
theorem dX4_swapFor_86 : decode cX4_swapFor 86 = .ok (.if_icmp .le 15, 3) := by decide +kernel
theorem dX4_swapFor_89 : decode cX4_swapFor 89 = .ok (.bipush 8, 2) := by decide +kernel
theorem dX4_swapFor_91 : decode cX4_swapFor 91 = .ok (.iload 4, 2) := by decide +kernel
theorem dX4_swapFor_93 : decode cX4_swapFor 93 = .ok (.imul, 1) := by decide +kernel
theorem dX4_swapFor_94 : decode cX4_swapFor 94 = .ok (.iload 5, 2) := by decide +kernel
theorem dX4_swapFor_96 : decode cX4_swapFor 96 = .ok (.iadd, 1) := by decide +kernel
theorem dX4_swapFor_97 : decode cX4_swapFor 97 = .ok (.istore_n 2, 1) := by decide +kernel
theorem dX4_swapFor_98 : decode cX4_swapFor 98 = .ok (.iload 6, 2) := by decide +kernel
theorem dX4_swapFor_100 : decode cX4_swapFor 100 = .ok (.istore_n 3, 1) := by decide +kernel
theorem dX4_swapFor_101 : decode cX4_swapFor 101 = .ok (.iinc 5 1, 3) := by decide +kernel
theorem dX4_swapFor_104 : decode cX4_swapFor 104 = .ok (.goto (-44), 3) := by decide +kernel
theorem dX4_swapFor_107 : decode cX4_swapFor 107 = .ok (.iinc 4 1, 3) := by decide +kernel
theorem dX4_swapFor_110 : decode cX4_swapFor 110 = .ok (.goto (-68), 3) := by decide +kernel
theorem dX4_swapFor_113 : decode cX4_swapFor 113 = .ok (.iload_n 2, 1) := by decide +kernel
theorem dX4_swapFor_114 : decode cX4_swapFor 114 = .ok (.ireturn, 1) := by decide +kernel
set_option maxRecDepth 20000 in
theorem ggX4_fits_X4_fittingTraits : GoodIn wsX4_fits wsX4_fittingTraits := goodIn_r _ [5, 6, 7, 8, 9, 10, 11, 4, 12, 13, 14, 15, 16, 17, 18, 19, 20, 21, 22, 23, 24, 25, 26, 27, 28, 29, 30, 31, 32, 33, 34, 35, 36, 37, 38, 39, 40, 41, 42, 43, 44, 45, 46, 47, 48, 49, 50, 51, 52, 53, 54, 55, 56, 57, 58, 59, 60, 61, 62, 63, 64, 65, 66, 67, 68, 69, 70, 71, 72, 73, 74, 75, 76, 77, 78, 79, 80, 81, 82, 83, 84, 85, 86, 87, 88, 89, 90, 91, 92, 93, 94, 95, 96, 97, 98, 99, 100, 101, 102, 103, 104, 105, 106, 107, 108, 109, 110, 111, 112, 113, 114, 115, 116, 117, 118, 119, 120, 121, 122, 123, 124, 125, 126, 127, 128, 129, 130] (by decide +kernel) (by decide +kernel)
set_option maxRecDepth 20000 in
theorem gX4_fits_X4_fittingTraits : GoodIn wsX4_fits (wsV RX4 179 RX4 yX4_fittingTraits wsX4_fittingTraits) := goodIn_app (goodIn_of _ (by decide +kernel)) ggX4_fits_X4_fittingTraits
theorem dX4_fits_0 : decode cX4_fits 0 = .ok (.aload_n 0, 1) := by decide +kernel
theorem dX4_fits_1 : decode cX4_fits 1 = .ok (.iload_n 1, 1) := by decide +kernel
theorem dX4_fits_2 : decode cX4_fits 2 = .ok (.iload_n 2, 1) := by decide +kernel
theorem dX4_fits_3 : decode cX4_fits 3 = .ok (.iconst 1, 1) := by decide +kernel
theorem dX4_fits_4 : decode cX4_fits 4 = .ok (.invokevirtual 179, 3) := by decide +kernel
theorem dX4_fits_7 : decode cX4_fits 7 = .ok (.ireturn, 1) := by decide +kernel
set_option maxRecDepth 20000 in
theorem ggX4_kinds_X4_fittingTraits : GoodIn wsX4_kinds wsX4_fittingTraits := goodIn_r _ [5, 6, 7, 8, 9, 10, 11, 4, 12, 13, 14, 15, 16, 17, 18, 19, 20, 21, 22, 23, 24, 25, 26, 27, 28, 29, 30, 31, 32, 33, 34, 35, 36, 37, 38, 39, 40, 41, 42, 43, 44, 45, 46, 47, 48, 49, 50, 51, 52, 53, 54, 55, 56, 57, 58, 59, 60, 61, 62, 63, 64, 65, 66, 67, 68, 69, 70, 71, 72, 73, 74, 75, 76, 77, 78, 79, 80, 81, 82, 83, 84, 85, 86, 87, 88, 89, 90, 91, 92, 93, 94, 95, 96, 97, 98, 99, 100, 101, 102, 103, 104, 105, 106, 107, 108, 109, 110, 111, 112, 113, 114, 115, 116, 117, 118, 119, 120, 121, 122, 123, 124, 125, 126, 127, 128, 129, 130] (by decide +kernel) (by decide +kernel)
set_option maxRecDepth 20000 in
theorem gX4_kinds_X4_fittingTraits : GoodIn wsX4_kinds (wsV RX4 179 RX4 yX4_fittingTraits wsX4_fittingTraits) := goodIn_app (goodIn_of _ (by decide +kernel)) ggX4_kinds_X4_fittingTraits
theorem dX4_kinds_0 : decode cX4_kinds 0 = .ok (.aload_n 0, 1) := by decide +kernel
theorem dX4_kinds_1 : decode cX4_kinds 1 = .ok (.iload_n 1, 1) := by decide +kernel
theorem dX4_kinds_2 : decode cX4_kinds 2 = .ok (.iload_n 2, 1) := by decide +kernel
theorem dX4_kinds_3 : decode cX4_kinds 3 = .ok (.iconst 0, 1) := by decide +kernel
theorem dX4_kinds_4 : decode cX4_kinds 4 = .ok (.invokevirtual 179, 3) := by decide +kernel
theorem dX4_kinds_7 : decode cX4_kinds 7 = .ok (.ireturn, 1) := by decide +kernel
set_option maxRecDepth 20000 in
theorem ggX4_weather_X4_isWithin : GoodIn wsX4_weather wsX4_isWithin := goodIn_r _ [10] (by decide +kernel) (by decide +kernel)
set_option maxRecDepth 20000 in
theorem gX4_weather_X4_isWithin : GoodIn wsX4_weather (va_wsS RX4 48 yX4_isWithin wsX4_isWithin) := goodIn_app (goodIn_of _ (by decide +kernel)) ggX4_weather_X4_isWithin
set_option maxRecDepth 20000 in
theorem ggX4_weather_X4_found : GoodIn wsX4_weather wsX4_found := goodIn_r _ [14, 1, 15, 7, 8, 9, 10, 75, 76, 77, 78, 79, 80, 81] (by decide +kernel) (by decide +kernel)
set_option maxRecDepth 20000 in
theorem gX4_weather_X4_found : GoodIn wsX4_weather (wsV RX4 53 RX4 yX4_found wsX4_found) := goodIn_app (goodIn_of _ (by decide +kernel)) ggX4_weather_X4_found
set_option maxRecDepth 20000 in
theorem ggX4_weather_X3_nextDraw : GoodIn wsX4_weather wsX3_nextDraw := goodIn_r _ [20, 21, 22, 82, 83, 84, 85, 86, 87, 88, 89, 90, 91, 92, 93, 94] (by decide +kernel) (by decide +kernel)
set_option maxRecDepth 20000 in
theorem gX4_weather_X3_nextDraw : GoodIn wsX4_weather (wsV RX4 182 RX3 yX3_nextDraw wsX3_nextDraw) := goodIn_app (goodIn_of _ (by decide +kernel)) ggX4_weather_X3_nextDraw
set_option maxRecDepth 20000 in
theorem ggX4_weather_X4_isPlace : GoodIn wsX4_weather wsX4_isPlace := goodIn_r _ [25] (by decide +kernel) (by decide +kernel)
set_option maxRecDepth 20000 in
theorem gX4_weather_X4_isPlace : GoodIn wsX4_weather (va_wsS RX4 44 yX4_isPlace wsX4_isPlace) := goodIn_app (goodIn_of _ (by decide +kernel)) ggX4_weather_X4_isPlace
set_option maxRecDepth 20000 in
theorem ggX4_weather_X3_passTuesdays : GoodIn wsX4_weather wsX3_passTuesdays := goodIn_r _ [29, 30, 31, 32, 33, 34, 35, 36, 37, 38, 39, 40, 41, 42, 43, 19, 44, 45, 46, 47, 48, 49, 50, 24, 9, 25, 51, 52, 53, 54, 55, 56, 57, 58, 59, 60, 61, 62, 63, 64, 65, 66, 67, 68, 69, 70, 82, 83, 84, 85, 86, 87, 88, 89, 90, 91, 92, 93, 94] (by decide +kernel) (by decide +kernel)
set_option maxRecDepth 20000 in
theorem gX4_weather_X3_passTuesdays : GoodIn wsX4_weather (wsV RX4 116 RX3 yX3_passTuesdays wsX3_passTuesdays) := goodIn_app (goodIn_of _ (by decide +kernel)) ggX4_weather_X3_passTuesdays
set_option maxRecDepth 20000 in
theorem ggX4_weather_X3_goodsOfAll : GoodIn wsX4_weather wsX3_goodsOfAll := goodIn_r _ [74, 30, 31, 82, 83, 84, 85, 86, 87, 88, 89, 90, 91, 92, 93, 94] (by decide +kernel) (by decide +kernel)
set_option maxRecDepth 20000 in
theorem gX4_weather_X3_goodsOfAll : GoodIn wsX4_weather (wsV RX4 120 RX3 yX3_goodsOfAll wsX3_goodsOfAll) := goodIn_app (goodIn_of _ (by decide +kernel)) ggX4_weather_X3_goodsOfAll
theorem dX4_weather_0 : decode cX4_weather 0 = .ok (.iload_n 1, 1) := by decide +kernel
theorem dX4_weather_1 : decode cX4_weather 1 = .ok (.iconst 1, 1) := by decide +kernel
theorem dX4_weather_2 : decode cX4_weather 2 = .ok (.bipush 20, 2) := by decide +kernel
theorem dX4_weather_4 : decode cX4_weather 4 = .ok (.invokestatic 48, 3) := by decide +kernel
theorem dX4_weather_7 : decode cX4_weather 7 = .ok (.ifCond .ne 10, 3) := by decide +kernel
theorem dX4_weather_10 : decode cX4_weather 10 = .ok (.aload_n 0, 1) := by decide +kernel
theorem dX4_weather_11 : decode cX4_weather 11 = .ok (.ldc 52, 2) := by decide +kernel
theorem dX4_weather_13 : decode cX4_weather 13 = .ok (.invokevirtual 53, 3) := by decide +kernel
theorem dX4_weather_16 : decode cX4_weather 16 = .ok (.ireturn, 1) := by decide +kernel
theorem dX4_weather_17 : decode cX4_weather 17 = .ok (.aload_n 0, 1) := by decide +kernel
theorem dX4_weather_18 : decode cX4_weather 18 = .ok (.getfield 12, 3) := by decide +kernel
theorem dX4_weather_21 : decode cX4_weather 21 = .ok (.getfield 110, 3) := by decide +kernel
theorem dX4_weather_24 : decode cX4_weather 24 = .ok (.ldc 114, 2) := by decide +kernel
theorem dX4_weather_26 : decode cX4_weather 26 = .ok (.iload_n 1, 1) := by decide +kernel
theorem dX4_weather_27 : decode cX4_weather 27 = .ok (.isub, 1) := by decide +kernel
theorem dX4_weather_28 : decode cX4_weather 28 = .ok (.if_icmp .le 10, 3) := by decide +kernel
theorem dX4_weather_31 : decode cX4_weather 31 = .ok (.aload_n 0, 1) := by decide +kernel
theorem dX4_weather_32 : decode cX4_weather 32 = .ok (.ldc 115, 2) := by decide +kernel
theorem dX4_weather_34 : decode cX4_weather 34 = .ok (.invokevirtual 53, 3) := by decide +kernel
theorem dX4_weather_37 : decode cX4_weather 37 = .ok (.ireturn, 1) := by decide +kernel
theorem dX4_weather_38 : decode cX4_weather 38 = .ok (.iconst 0, 1) := by decide +kernel
theorem dX4_weather_39 : decode cX4_weather 39 = .ok (.istore_n 2, 1) := by decide +kernel
theorem dX4_weather_40 : decode cX4_weather 40 = .ok (.iload_n 2, 1) := by decide +kernel
theorem dX4_weather_41 : decode cX4_weather 41 = .ok (.iload_n 1, 1) := by decide +kernel
theorem dX4_weather_42 : decode cX4_weather 42 = .ok (.if_icmp .ge 58, 3) := by decide +kernel
theorem dX4_weather_45 : decode cX4_weather 45 = .ok (.aload_n 0, 1) := by decide +kernel
theorem dX4_weather_46 : decode cX4_weather 46 = .ok (.getfield 12, 3) := by decide +kernel
theorem dX4_weather_49 : decode cX4_weather 49 = .ok (.invokevirtual 182, 3) := by decide +kernel
theorem dX4_weather_52 : decode cX4_weather 52 = .ok (.bipush 8, 2) := by decide +kernel
theorem dX4_weather_54 : decode cX4_weather 54 = .ok (.irem, 1) := by decide +kernel
theorem dX4_weather_55 : decode cX4_weather 55 = .ok (.istore_n 3, 1) := by decide +kernel
theorem dX4_weather_56 : decode cX4_weather 56 = .ok (.aload_n 0, 1) := by decide +kernel
theorem dX4_weather_57 : decode cX4_weather 57 = .ok (.getfield 12, 3) := by decide +kernel
theorem dX4_weather_60 : decode cX4_weather 60 = .ok (.invokevirtual 182, 3) := by decide +kernel
theorem dX4_weather_63 : decode cX4_weather 63 = .ok (.bipush 100, 2) := by decide +kernel
theorem dX4_weather_65 : decode cX4_weather 65 = .ok (.irem, 1) := by decide +kernel
theorem dX4_weather_66 : decode cX4_weather 66 = .ok (.istore 4, 2) := by decide +kernel
theorem dX4_weather_68 : decode cX4_weather 68 = .ok (.iload_n 3, 1) := by decide +kernel
theorem dX4_weather_69 : decode cX4_weather 69 = .ok (.invokestatic 44, 3) := by decide +kernel
theorem dX4_weather_72 : decode cX4_weather 72 = .ok (.ifCond .eq 14, 3) := by decide +kernel
theorem dX4_weather_75 : decode cX4_weather 75 = .ok (.aload_n 0, 1) := by decide +kernel
theorem dX4_weather_76 : decode cX4_weather 76 = .ok (.getfield 12, 3) := by decide +kernel
theorem dX4_weather_79 : decode cX4_weather 79 = .ok (.getfield 57, 3) := by decide +kernel
theorem dX4_weather_82 : decode cX4_weather 82 = .ok (.iload_n 3, 1) := by decide +kernel
theorem dX4_weather_83 : decode cX4_weather 83 = .ok (.iload 4, 2) := by decide +kernel
theorem dX4_weather_85 : decode cX4_weather 85 = .ok (.iastore, 1) := by decide +kernel
theorem dX4_weather_86 : decode cX4_weather 86 = .ok (.aload_n 0, 1) := by decide +kernel
theorem dX4_weather_87 : decode cX4_weather 87 = .ok (.getfield 12, 3) := by decide +kernel
theorem dX4_weather_90 : decode cX4_weather 90 = .ok (.iconst 1, 1) := by decide +kernel
theorem dX4_weather_91 : decode cX4_weather 91 = .ok (.invokevirtual 116, 3) := by decide +kernel
theorem dX4_weather_94 : decode cX4_weather 94 = .ok (.iinc 2 1, 3) := by decide +kernel
theorem dX4_weather_97 : decode cX4_weather 97 = .ok (.goto (-57), 3) := by decide +kernel
theorem dX4_weather_100 : decode cX4_weather 100 = .ok (.aload_n 0, 1) := by decide +kernel
theorem dX4_weather_101 : decode cX4_weather 101 = .ok (.getfield 12, 3) := by decide +kernel
theorem dX4_weather_104 : decode cX4_weather 104 = .ok (.invokevirtual 120, 3) := by decide +kernel
theorem dX4_weather_107 : decode cX4_weather 107 = .ok (.ireturn, 1) := by decide +kernel
set_option maxRecDepth 20000 in
theorem ggX4_odds_X4_isWithin : GoodIn wsX4_odds wsX4_isWithin := goodIn_r _ [6] (by decide +kernel) (by decide +kernel)
set_option maxRecDepth 20000 in
theorem gX4_odds_X4_isWithin : GoodIn wsX4_odds (va_wsS RX4 48 yX4_isWithin wsX4_isWithin) := goodIn_app (goodIn_of _ (by decide +kernel)) ggX4_odds_X4_isWithin
set_option maxRecDepth 20000 in
theorem ggX4_odds_X4_found : GoodIn wsX4_odds wsX4_found := goodIn_r _ [10, 1, 11, 3, 4, 5, 6, 61, 62, 63, 64, 65, 66, 67] (by decide +kernel) (by decide +kernel)
set_option maxRecDepth 20000 in
theorem gX4_odds_X4_found : GoodIn wsX4_odds (wsV RX4 53 RX4 yX4_found wsX4_found) := goodIn_app (goodIn_of _ (by decide +kernel)) ggX4_odds_X4_found
set_option maxRecDepth 20000 in
theorem ggX4_odds_X3_settle : GoodIn wsX4_odds wsX3_settle := goodIn_r _ [16, 17, 18, 19, 20, 21, 22, 23, 24, 25, 26, 5, 27, 28, 29, 30, 15, 31, 32, 33, 34, 35, 36, 37, 38, 39, 40, 41, 42, 43, 44, 45, 46, 68, 69, 70, 71, 72, 73, 74, 75, 76, 77, 78, 79, 80] (by decide +kernel) (by decide +kernel)
set_option maxRecDepth 20000 in
theorem gX4_odds_X3_settle : GoodIn wsX4_odds (wsV RX4 60 RX3 yX3_settle wsX3_settle) := goodIn_app (goodIn_of _ (by decide +kernel)) ggX4_odds_X3_settle
set_option maxRecDepth 20000 in
theorem ggX4_odds_X3_visitedPlaces : GoodIn wsX4_odds wsX3_visitedPlaces := goodIn_r _ [50, 18, 68, 69, 70, 71, 72, 73, 74, 75, 76, 77, 78, 79, 80] (by decide +kernel) (by decide +kernel)
set_option maxRecDepth 20000 in
theorem gX4_odds_X3_visitedPlaces : GoodIn wsX4_odds (wsV RX4 127 RX3 yX3_visitedPlaces wsX3_visitedPlaces) := goodIn_app (goodIn_of _ (by decide +kernel)) ggX4_odds_X3_visitedPlaces
set_option maxRecDepth 20000 in
theorem ggX4_odds_J6_bitCount_0f7a4 : GoodIn wsX4_odds wsJ6_bitCount_0f7a4 := goodIn_r _ [54, 55, 56, 57] (by decide +kernel) (by decide +kernel)
set_option maxRecDepth 20000 in
theorem gX4_odds_J6_bitCount_0f7a4 : GoodIn wsX4_odds (va_wsS RX4 168 yJ6_bitCount_0f7a4 wsJ6_bitCount_0f7a4) := goodIn_app (goodIn_of _ (by decide +kernel)) ggX4_odds_J6_bitCount_0f7a4
set_option maxRecDepth 20000 in
theorem ggX4_odds_X4_powerOf : GoodIn wsX4_odds wsX4_powerOf := goodIn_r _ [60] (by decide +kernel) (by decide +kernel)
set_option maxRecDepth 20000 in
theorem gX4_odds_X4_powerOf : GoodIn wsX4_odds (va_wsS RX4 185 yX4_powerOf wsX4_powerOf) := goodIn_app (goodIn_of _ (by decide +kernel)) ggX4_odds_X4_powerOf
theorem dX4_odds_0 : decode cX4_odds 0 = .ok (.iload_n 1, 1) := by decide +kernel
theorem dX4_odds_1 : decode cX4_odds 1 = .ok (.iconst 0, 1) := by decide +kernel
theorem dX4_odds_2 : decode cX4_odds 2 = .ok (.bipush 20, 2) := by decide +kernel
theorem dX4_odds_4 : decode cX4_odds 4 = .ok (.invokestatic 48, 3) := by decide +kernel
theorem dX4_odds_7 : decode cX4_odds 7 = .ok (.ifCond .eq 12, 3) := by decide +kernel
theorem dX4_odds_10 : decode cX4_odds 10 = .ok (.iload_n 2, 1) := by decide +kernel
theorem dX4_odds_11 : decode cX4_odds 11 = .ok (.iconst 0, 1) := by decide +kernel
theorem dX4_odds_12 : decode cX4_odds 12 = .ok (.iconst 1, 1) := by decide +kernel
theorem dX4_odds_13 : decode cX4_odds 13 = .ok (.invokestatic 48, 3) := by decide +kernel
theorem dX4_odds_16 : decode cX4_odds 16 = .ok (.ifCond .ne 11, 3) := by decide +kernel
theorem dX4_odds_19 : decode cX4_odds 19 = .ok (.aload_n 0, 1) := by decide +kernel
theorem dX4_odds_20 : decode cX4_odds 20 = .ok (.ldc 52, 2) := by decide +kernel
theorem dX4_odds_22 : decode cX4_odds 22 = .ok (.invokevirtual 53, 3) := by decide +kernel
theorem dX4_odds_25 : decode cX4_odds 25 = .ok (.i2l, 1) := by decide +kernel
theorem dX4_odds_26 : decode cX4_odds 26 = .ok (.lreturn, 1) := by decide +kernel
theorem dX4_odds_27 : decode cX4_odds 27 = .ok (.aload_n 0, 1) := by decide +kernel
theorem dX4_odds_28 : decode cX4_odds 28 = .ok (.getfield 12, 3) := by decide +kernel
theorem dX4_odds_31 : decode cX4_odds 31 = .ok (.invokevirtual 60, 3) := by decide +kernel
theorem dX4_odds_34 : decode cX4_odds 34 = .ok (.bipush 8, 2) := by decide +kernel
theorem dX4_odds_36 : decode cX4_odds 36 = .ok (.aload_n 0, 1) := by decide +kernel
theorem dX4_odds_37 : decode cX4_odds 37 = .ok (.getfield 12, 3) := by decide +kernel
theorem dX4_odds_40 : decode cX4_odds 40 = .ok (.invokevirtual 127, 3) := by decide +kernel
theorem dX4_odds_43 : decode cX4_odds 43 = .ok (.invokestatic 168, 3) := by decide +kernel
theorem dX4_odds_46 : decode cX4_odds 46 = .ok (.isub, 1) := by decide +kernel
theorem dX4_odds_47 : decode cX4_odds 47 = .ok (.istore_n 3, 1) := by decide +kernel
theorem dX4_odds_48 : decode cX4_odds 48 = .ok (.bipush 8, 2) := by decide +kernel
theorem dX4_odds_50 : decode cX4_odds 50 = .ok (.istore 4, 2) := by decide +kernel
theorem dX4_odds_52 : decode cX4_odds 52 = .ok (.iconst 0, 1) := by decide +kernel
theorem dX4_odds_53 : decode cX4_odds 53 = .ok (.istore 5, 2) := by decide +kernel
theorem dX4_odds_55 : decode cX4_odds 55 = .ok (.iload 5, 2) := by decide +kernel
theorem dX4_odds_57 : decode cX4_odds 57 = .ok (.iconst 3, 1) := by decide +kernel
theorem dX4_odds_58 : decode cX4_odds 58 = .ok (.if_icmp .ge 25, 3) := by decide +kernel
theorem dX4_odds_61 : decode cX4_odds 61 = .ok (.iload_n 3, 1) := by decide +kernel
theorem dX4_odds_62 : decode cX4_odds 62 = .ok (.iconst 2, 1) := by decide +kernel
theorem dX4_odds_63 : decode cX4_odds 63 = .ok (.irem, 1) := by decide +kernel
theorem dX4_odds_64 : decode cX4_odds 64 = .ok (.ifCond .ne 19, 3) := by decide +kernel
theorem dX4_odds_67 : decode cX4_odds 67 = .ok (.iload_n 3, 1) := by decide +kernel
theorem dX4_odds_68 : decode cX4_odds 68 = .ok (.iconst 2, 1) := by decide +kernel
theorem dX4_odds_69 : decode cX4_odds 69 = .ok (.idiv, 1) := by decide +kernel
theorem dX4_odds_70 : decode cX4_odds 70 = .ok (.istore_n 3, 1) := by decide +kernel
theorem dX4_odds_71 : decode cX4_odds 71 = .ok (.iload 4, 2) := by decide +kernel
theorem dX4_odds_73 : decode cX4_odds 73 = .ok (.iconst 2, 1) := by decide +kernel
theorem dX4_odds_74 : decode cX4_odds 74 = .ok (.idiv, 1) := by decide +kernel
theorem dX4_odds_75 : decode cX4_odds 75 = .ok (.istore 4, 2) := by decide +kernel
theorem dX4_odds_77 : decode cX4_odds 77 = .ok (.iinc 5 1, 3) := by decide +kernel
theorem dX4_odds_80 : decode cX4_odds 80 = .ok (.goto (-25), 3) := by decide +kernel
theorem dX4_odds_83 : decode cX4_odds 83 = .ok (.iload_n 2, 1) := by decide +kernel
theorem dX4_odds_84 : decode cX4_odds 84 = .ok (.ifCond .ne 7, 3) := by decide +kernel
theorem dX4_odds_87 : decode cX4_odds 87 = .ok (.iload_n 3, 1) := by decide +kernel
theorem dX4_odds_88 : decode cX4_odds 88 = .ok (.goto 5, 3) := by decide +kernel
theorem dX4_odds_91 : decode cX4_odds 91 = .ok (.iload 4, 2) := by decide +kernel
theorem dX4_odds_93 : decode cX4_odds 93 = .ok (.iload_n 1, 1) := by decide +kernel
theorem dX4_odds_94 : decode cX4_odds 94 = .ok (.invokestatic 185, 3) := by decide +kernel
theorem dX4_odds_97 : decode cX4_odds 97 = .ok (.lreturn, 1) := by decide +kernel
theorem dX4_seed_0 : decode cX4_seed 0 = .ok (.aload_n 0, 1) := by decide +kernel
theorem dX4_seed_1 : decode cX4_seed 1 = .ok (.getfield 12, 3) := by decide +kernel
theorem dX4_seed_4 : decode cX4_seed 4 = .ok (.getfield 189, 3) := by decide +kernel
theorem dX4_seed_7 : decode cX4_seed 7 = .ok (.istore_n 2, 1) := by decide +kernel
theorem dX4_seed_8 : decode cX4_seed 8 = .ok (.aload_n 0, 1) := by decide +kernel
theorem dX4_seed_9 : decode cX4_seed 9 = .ok (.getfield 12, 3) := by decide +kernel
theorem dX4_seed_12 : decode cX4_seed 12 = .ok (.iload_n 1, 1) := by decide +kernel
theorem dX4_seed_13 : decode cX4_seed 13 = .ok (.putfield 189, 3) := by decide +kernel
theorem dX4_seed_16 : decode cX4_seed 16 = .ok (.iload_n 2, 1) := by decide +kernel
theorem dX4_seed_17 : decode cX4_seed 17 = .ok (.ireturn, 1) := by decide +kernel
set_option maxRecDepth 20000 in
theorem ggX4_feed_X4_isWithin : GoodIn wsX4_feed wsX4_isWithin := goodIn_r _ [9] (by decide +kernel) (by decide +kernel)
set_option maxRecDepth 20000 in
theorem gX4_feed_X4_isWithin : GoodIn wsX4_feed (va_wsS RX4 48 yX4_isWithin wsX4_isWithin) := goodIn_app (goodIn_of _ (by decide +kernel)) ggX4_feed_X4_isWithin
set_option maxRecDepth 20000 in
theorem ggX4_feed_X4_found : GoodIn wsX4_feed wsX4_found := goodIn_r _ [13, 1, 14, 6, 7, 8, 9, 22, 23, 24, 25, 26, 27, 28] (by decide +kernel) (by decide +kernel)
set_option maxRecDepth 20000 in
theorem gX4_feed_X4_found : GoodIn wsX4_feed (wsV RX4 53 RX4 yX4_found wsX4_found) := goodIn_app (goodIn_of _ (by decide +kernel)) ggX4_feed_X4_found
set_option maxRecDepth 20000 in
theorem ggX4_feed_X1_append : GoodIn wsX4_feed wsX1_append := goodIn_r _ [19, 20, 21, 33, 34, 35, 36, 37, 38] (by decide +kernel) (by decide +kernel)
set_option maxRecDepth 20000 in
theorem gX4_feed_X1_append : GoodIn wsX4_feed (wsV RX4 201 RX1 yX1_append wsX1_append) := goodIn_app (goodIn_of _ (by decide +kernel)) ggX4_feed_X1_append
theorem dX4_feed_0 : decode cX4_feed 0 = .ok (.iload_n 2, 1) := by decide +kernel
theorem dX4_feed_1 : decode cX4_feed 1 = .ok (.iconst 1, 1) := by decide +kernel
theorem dX4_feed_2 : decode cX4_feed 2 = .ok (.iconst 4, 1) := by decide +kernel
theorem dX4_feed_3 : decode cX4_feed 3 = .ok (.invokestatic 48, 3) := by decide +kernel
theorem dX4_feed_6 : decode cX4_feed 6 = .ok (.ifCond .ne 10, 3) := by decide +kernel
theorem dX4_feed_9 : decode cX4_feed 9 = .ok (.aload_n 0, 1) := by decide +kernel
theorem dX4_feed_10 : decode cX4_feed 10 = .ok (.ldc 52, 2) := by decide +kernel
theorem dX4_feed_12 : decode cX4_feed 12 = .ok (.invokevirtual 53, 3) := by decide +kernel
theorem dX4_feed_15 : decode cX4_feed 15 = .ok (.ireturn, 1) := by decide +kernel
theorem dX4_feed_16 : decode cX4_feed 16 = .ok (.aload_n 0, 1) := by decide +kernel
theorem dX4_feed_17 : decode cX4_feed 17 = .ok (.getfield 25, 3) := by decide +kernel
theorem dX4_feed_20 : decode cX4_feed 20 = .ok (.getfield 192, 3) := by decide +kernel
theorem dX4_feed_23 : decode cX4_feed 23 = .ok (.getfield 196, 3) := by decide +kernel
theorem dX4_feed_26 : decode cX4_feed 26 = .ok (.iload_n 2, 1) := by decide +kernel
theorem dX4_feed_27 : decode cX4_feed 27 = .ok (.iadd, 1) := by decide +kernel
theorem dX4_feed_28 : decode cX4_feed 28 = .ok (.bipush 120, 2) := by decide +kernel
theorem dX4_feed_30 : decode cX4_feed 30 = .ok (.if_icmp .le 10, 3) := by decide +kernel
theorem dX4_feed_33 : decode cX4_feed 33 = .ok (.aload_n 0, 1) := by decide +kernel
theorem dX4_feed_34 : decode cX4_feed 34 = .ok (.ldc 76, 2) := by decide +kernel
theorem dX4_feed_36 : decode cX4_feed 36 = .ok (.invokevirtual 53, 3) := by decide +kernel
theorem dX4_feed_39 : decode cX4_feed 39 = .ok (.ireturn, 1) := by decide +kernel
theorem dX4_feed_40 : decode cX4_feed 40 = .ok (.iload_n 2, 1) := by decide +kernel
theorem dX4_feed_41 : decode cX4_feed 41 = .ok (.iconst 1, 1) := by decide +kernel
theorem dX4_feed_42 : decode cX4_feed 42 = .ok (.isub, 1) := by decide +kernel
theorem dX4_feed_43 : decode cX4_feed 43 = .ok (.istore_n 3, 1) := by decide +kernel
theorem dX4_feed_44 : decode cX4_feed 44 = .ok (.iload_n 3, 1) := by decide +kernel
theorem dX4_feed_45 : decode cX4_feed 45 = .ok (.ifCond .lt 29, 3) := by decide +kernel
theorem dX4_feed_48 : decode cX4_feed 48 = .ok (.aload_n 0, 1) := by decide +kernel
theorem dX4_feed_49 : decode cX4_feed 49 = .ok (.getfield 25, 3) := by decide +kernel
theorem dX4_feed_52 : decode cX4_feed 52 = .ok (.getfield 192, 3) := by decide +kernel
theorem dX4_feed_55 : decode cX4_feed 55 = .ok (.iload_n 1, 1) := by decide +kernel
theorem dX4_feed_56 : decode cX4_feed 56 = .ok (.bipush 8, 2) := by decide +kernel
theorem dX4_feed_58 : decode cX4_feed 58 = .ok (.iload_n 3, 1) := by decide +kernel
theorem dX4_feed_59 : decode cX4_feed 59 = .ok (.imul, 1) := by decide +kernel
theorem dX4_feed_60 : decode cX4_feed 60 = .ok (.iushr, 1) := by decide +kernel
theorem dX4_feed_61 : decode cX4_feed 61 = .ok (.sipush 255, 3) := by decide +kernel
theorem dX4_feed_64 : decode cX4_feed 64 = .ok (.iand, 1) := by decide +kernel
theorem dX4_feed_65 : decode cX4_feed 65 = .ok (.invokevirtual 201, 3) := by decide +kernel
theorem dX4_feed_68 : decode cX4_feed 68 = .ok (.iinc 3 (-1), 3) := by decide +kernel
theorem dX4_feed_71 : decode cX4_feed 71 = .ok (.goto (-27), 3) := by decide +kernel
theorem dX4_feed_74 : decode cX4_feed 74 = .ok (.aload_n 0, 1) := by decide +kernel
theorem dX4_feed_75 : decode cX4_feed 75 = .ok (.getfield 25, 3) := by decide +kernel
theorem dX4_feed_78 : decode cX4_feed 78 = .ok (.getfield 192, 3) := by decide +kernel
theorem dX4_feed_81 : decode cX4_feed 81 = .ok (.getfield 196, 3) := by decide +kernel
theorem dX4_feed_84 : decode cX4_feed 84 = .ok (.ireturn, 1) := by decide +kernel
theorem dX4_wipe_0 : decode cX4_wipe 0 = .ok (.aload_n 0, 1) := by decide +kernel
theorem dX4_wipe_1 : decode cX4_wipe 1 = .ok (.getfield 25, 3) := by decide +kernel
theorem dX4_wipe_4 : decode cX4_wipe 4 = .ok (.getfield 192, 3) := by decide +kernel
theorem dX4_wipe_7 : decode cX4_wipe 7 = .ok (.getfield 196, 3) := by decide +kernel
theorem dX4_wipe_10 : decode cX4_wipe 10 = .ok (.istore_n 1, 1) := by decide +kernel
theorem dX4_wipe_11 : decode cX4_wipe 11 = .ok (.aload_n 0, 1) := by decide +kernel
theorem dX4_wipe_12 : decode cX4_wipe 12 = .ok (.getfield 25, 3) := by decide +kernel
theorem dX4_wipe_15 : decode cX4_wipe 15 = .ok (.getfield 192, 3) := by decide +kernel
theorem dX4_wipe_18 : decode cX4_wipe 18 = .ok (.iconst 0, 1) := by decide +kernel
theorem dX4_wipe_19 : decode cX4_wipe 19 = .ok (.putfield 196, 3) := by decide +kernel
theorem dX4_wipe_22 : decode cX4_wipe 22 = .ok (.iload_n 1, 1) := by decide +kernel
theorem dX4_wipe_23 : decode cX4_wipe 23 = .ok (.ireturn, 1) := by decide +kernel
set_option maxRecDepth 20000 in
theorem ggX4_text_X3_become : GoodIn wsX4_text wsX3_become := goodIn_r _ [12, 13, 14, 15, 16, 17, 18, 19, 20, 21, 22, 23, 24, 25, 26, 179, 180, 181, 182, 183, 184, 185, 186, 187, 188, 189, 190, 191] (by decide +kernel) (by decide +kernel)
set_option maxRecDepth 20000 in
theorem gX4_text_X3_become : GoodIn wsX4_text (wsV RX4 136 RX3 yX3_become wsX3_become) := goodIn_app (goodIn_of _ (by decide +kernel)) ggX4_text_X3_become
set_option maxRecDepth 20000 in
theorem ggX4_text_X2_readItems : GoodIn wsX4_text wsX2_readItems := goodIn_r _ [31, 32, 33, 34, 35, 36, 37, 38, 39, 40, 41, 42, 43, 44, 45, 46, 47, 48, 49, 50, 51, 52, 53, 54, 55, 56, 57, 58, 59, 60, 30, 61, 62, 63, 64, 65, 66, 67, 68, 69, 70, 71, 72, 73, 74, 75, 76, 77, 78, 79, 80, 81, 82, 83, 84, 85, 86, 87, 88, 89, 90, 91, 92, 93, 94, 95, 96, 97, 98, 99, 100, 101, 102, 103, 104, 105, 106, 107, 108, 109, 110, 111, 112, 113, 114, 115, 116, 117, 118, 119, 120, 121, 122, 123, 124, 125, 126, 127, 128, 129, 130, 131, 132, 133, 134, 135, 136, 137, 138, 139, 140, 141, 142, 11, 143, 24, 18, 19, 20, 21, 22, 144, 145, 146, 147, 148, 149, 150, 151, 152, 153, 154, 155, 156, 157, 158, 159, 160, 161, 169, 170, 171, 172, 173, 174, 175, 176, 177, 178, 179, 180, 181, 182, 183, 184, 185, 186, 187, 188, 189, 190, 191] (by decide +kernel) (by decide +kernel)
set_option maxRecDepth 20000 in
theorem gX4_text_X2_readItems : GoodIn wsX4_text (wsV RX4 207 RX2 yX2_readItems wsX2_readItems) := goodIn_app (goodIn_of _ (by decide +kernel)) ggX4_text_X2_readItems
theorem dX4_text_0 : decode cX4_text 0 = .ok (.aload_n 0, 1) := by decide +kernel
theorem dX4_text_1 : decode cX4_text 1 = .ok (.getfield 25, 3) := by decide +kernel
theorem dX4_text_4 : decode cX4_text 4 = .ok (.getfield 204, 3) := by decide +kernel
theorem dX4_text_7 : decode cX4_text 7 = .ok (.aload_n 0, 1) := by decide +kernel
theorem dX4_text_8 : decode cX4_text 8 = .ok (.getfield 12, 3) := by decide +kernel
theorem dX4_text_11 : decode cX4_text 11 = .ok (.invokevirtual 136, 3) := by decide +kernel
theorem dX4_text_14 : decode cX4_text 14 = .ok (.aload_n 0, 1) := by decide +kernel
theorem dX4_text_15 : decode cX4_text 15 = .ok (.getfield 25, 3) := by decide +kernel
theorem dX4_text_18 : decode cX4_text 18 = .ok (.invokevirtual 207, 3) := by decide +kernel
theorem dX4_text_21 : decode cX4_text 21 = .ok (.istore_n 1, 1) := by decide +kernel
theorem dX4_text_22 : decode cX4_text 22 = .ok (.aload_n 0, 1) := by decide +kernel
theorem dX4_text_23 : decode cX4_text 23 = .ok (.getfield 25, 3) := by decide +kernel
theorem dX4_text_26 : decode cX4_text 26 = .ok (.getfield 192, 3) := by decide +kernel
theorem dX4_text_29 : decode cX4_text 29 = .ok (.iconst 0, 1) := by decide +kernel
theorem dX4_text_30 : decode cX4_text 30 = .ok (.putfield 196, 3) := by decide +kernel
theorem dX4_text_33 : decode cX4_text 33 = .ok (.iload_n 1, 1) := by decide +kernel
theorem dX4_text_34 : decode cX4_text 34 = .ok (.ifCond .ne 13, 3) := by decide +kernel
theorem dX4_text_37 : decode cX4_text 37 = .ok (.iconst (-1), 1) := by decide +kernel
theorem dX4_text_38 : decode cX4_text 38 = .ok (.aload_n 0, 1) := by decide +kernel
theorem dX4_text_39 : decode cX4_text 39 = .ok (.getfield 25, 3) := by decide +kernel
theorem dX4_text_42 : decode cX4_text 42 = .ok (.getfield 211, 3) := by decide +kernel
theorem dX4_text_45 : decode cX4_text 45 = .ok (.isub, 1) := by decide +kernel
theorem dX4_text_46 : decode cX4_text 46 = .ok (.ireturn, 1) := by decide +kernel
theorem dX4_text_47 : decode cX4_text 47 = .ok (.aload_n 0, 1) := by decide +kernel
theorem dX4_text_48 : decode cX4_text 48 = .ok (.getfield 12, 3) := by decide +kernel
theorem dX4_text_51 : decode cX4_text 51 = .ok (.aload_n 0, 1) := by decide +kernel
theorem dX4_text_52 : decode cX4_text 52 = .ok (.getfield 25, 3) := by decide +kernel
theorem dX4_text_55 : decode cX4_text 55 = .ok (.getfield 204, 3) := by decide +kernel
theorem dX4_text_58 : decode cX4_text 58 = .ok (.invokevirtual 136, 3) := by decide +kernel
theorem dX4_text_61 : decode cX4_text 61 = .ok (.aload_n 0, 1) := by decide +kernel
theorem dX4_text_62 : decode cX4_text 62 = .ok (.getfield 25, 3) := by decide +kernel
theorem dX4_text_65 : decode cX4_text 65 = .ok (.getfield 214, 3) := by decide +kernel
theorem dX4_text_68 : decode cX4_text 68 = .ok (.ireturn, 1) := by decide +kernel
set_option maxRecDepth 20000 in
theorem ggX4_hold_X4_isSpot : GoodIn wsX4_hold wsX4_isSpot := goodIn_r _ [7, 8, 9, 6, 10] (by decide +kernel) (by decide +kernel)
set_option maxRecDepth 20000 in
theorem gX4_hold_X4_isSpot : GoodIn wsX4_hold (va_wsS RX4 217 yX4_isSpot wsX4_isSpot) := goodIn_app (goodIn_of _ (by decide +kernel)) ggX4_hold_X4_isSpot
set_option maxRecDepth 20000 in
theorem ggX4_hold_X4_isThere : GoodIn wsX4_hold wsX4_isThere := goodIn_r _ [14, 2, 15, 8, 9, 6, 10, 21, 22, 23, 24, 25, 26, 27, 28, 29, 30, 31, 32, 33, 34, 35, 36, 37, 38, 39, 40] (by decide +kernel) (by decide +kernel)
set_option maxRecDepth 20000 in
theorem gX4_hold_X4_isThere : GoodIn wsX4_hold (wsV RX4 77 RX4 yX4_isThere wsX4_isThere) := goodIn_app (goodIn_of _ (by decide +kernel)) ggX4_hold_X4_isThere
set_option maxRecDepth 20000 in
theorem ggX4_hold_X4_found : GoodIn wsX4_hold wsX4_found := goodIn_r _ [19, 1, 20, 8, 9, 6, 10, 21, 22, 23, 24, 25, 26, 27] (by decide +kernel) (by decide +kernel)
set_option maxRecDepth 20000 in
theorem gX4_hold_X4_found : GoodIn wsX4_hold (wsV RX4 53 RX4 yX4_found wsX4_found) := goodIn_app (goodIn_of _ (by decide +kernel)) ggX4_hold_X4_found
theorem dX4_hold_0 : decode cX4_hold 0 = .ok (.iload_n 1, 1) := by decide +kernel
theorem dX4_hold_1 : decode cX4_hold 1 = .ok (.invokestatic 217, 3) := by decide +kernel
theorem dX4_hold_4 : decode cX4_hold 4 = .ok (.ifCond .eq 16, 3) := by decide +kernel
theorem dX4_hold_7 : decode cX4_hold 7 = .ok (.iload_n 2, 1) := by decide +kernel
theorem dX4_hold_8 : decode cX4_hold 8 = .ok (.iconst (-1), 1) := by decide +kernel
theorem dX4_hold_9 : decode cX4_hold 9 = .ok (.if_icmp .eq 18, 3) := by decide +kernel
theorem dX4_hold_12 : decode cX4_hold 12 = .ok (.aload_n 0, 1) := by decide +kernel
theorem dX4_hold_13 : decode cX4_hold 13 = .ok (.iload_n 2, 1) := by decide +kernel
theorem dX4_hold_14 : decode cX4_hold 14 = .ok (.invokevirtual 77, 3) := by decide +kernel
theorem dX4_hold_17 : decode cX4_hold 17 = .ok (.ifCond .ne 10, 3) := by decide +kernel
theorem dX4_hold_20 : decode cX4_hold 20 = .ok (.aload_n 0, 1) := by decide +kernel
theorem dX4_hold_21 : decode cX4_hold 21 = .ok (.ldc 52, 2) := by decide +kernel
theorem dX4_hold_23 : decode cX4_hold 23 = .ok (.invokevirtual 53, 3) := by decide +kernel
theorem dX4_hold_26 : decode cX4_hold 26 = .ok (.ireturn, 1) := by decide +kernel
theorem dX4_hold_27 : decode cX4_hold 27 = .ok (.aload_n 0, 1) := by decide +kernel
theorem dX4_hold_28 : decode cX4_hold 28 = .ok (.getfield 12, 3) := by decide +kernel
theorem dX4_hold_31 : decode cX4_hold 31 = .ok (.getfield 220, 3) := by decide +kernel
theorem dX4_hold_34 : decode cX4_hold 34 = .ok (.iload_n 1, 1) := by decide +kernel
theorem dX4_hold_35 : decode cX4_hold 35 = .ok (.iload_n 2, 1) := by decide +kernel
theorem dX4_hold_36 : decode cX4_hold 36 = .ok (.iastore, 1) := by decide +kernel
theorem dX4_hold_37 : decode cX4_hold 37 = .ok (.iconst 1, 1) := by decide +kernel
theorem dX4_hold_38 : decode cX4_hold 38 = .ok (.ireturn, 1) := by decide +kernel
set_option maxRecDepth 20000 in
theorem ggX4_as_X4_isSpot : GoodIn wsX4_as wsX4_isSpot := goodIn_r _ [10, 11, 12, 9, 13] (by decide +kernel) (by decide +kernel)
set_option maxRecDepth 20000 in
theorem gX4_as_X4_isSpot : GoodIn wsX4_as (va_wsS RX4 217 yX4_isSpot wsX4_isSpot) := goodIn_app (goodIn_of _ (by decide +kernel)) ggX4_as_X4_isSpot
set_option maxRecDepth 20000 in
theorem ggX4_as_X4_isKind : GoodIn wsX4_as wsX4_isKind := goodIn_r _ [16, 11, 12, 9, 13] (by decide +kernel) (by decide +kernel)
set_option maxRecDepth 20000 in
theorem gX4_as_X4_isKind : GoodIn wsX4_as (va_wsS RX4 69 yX4_isKind wsX4_isKind) := goodIn_app (goodIn_of _ (by decide +kernel)) ggX4_as_X4_isKind
set_option maxRecDepth 20000 in
theorem ggX4_as_X4_found : GoodIn wsX4_as wsX4_found := goodIn_r _ [20, 1, 21, 11, 12, 9, 13, 31, 32, 33, 34, 35, 36, 37] (by decide +kernel) (by decide +kernel)
set_option maxRecDepth 20000 in
theorem gX4_as_X4_found : GoodIn wsX4_as (wsV RX4 53 RX4 yX4_found wsX4_found) := goodIn_app (goodIn_of _ (by decide +kernel)) ggX4_as_X4_found
set_option maxRecDepth 20000 in
theorem ggX4_as_X4_isThere : GoodIn wsX4_as wsX4_isThere := goodIn_r _ [25, 2, 26, 11, 12, 9, 13, 31, 32, 33, 34, 35, 36, 37, 38, 39, 40, 41, 42, 43, 44, 45, 46, 47, 48, 49, 50] (by decide +kernel) (by decide +kernel)
set_option maxRecDepth 20000 in
theorem gX4_as_X4_isThere : GoodIn wsX4_as (wsV RX4 77 RX4 yX4_isThere wsX4_isThere) := goodIn_app (goodIn_of _ (by decide +kernel)) ggX4_as_X4_isThere
set_option maxRecDepth 20000 in
theorem ggX4_as_X4_isUnder : GoodIn wsX4_as wsX4_isUnder := goodIn_r _ [29, 30, 14, 15, 9, 16, 11, 12, 13] (by decide +kernel) (by decide +kernel)
set_option maxRecDepth 20000 in
theorem gX4_as_X4_isUnder : GoodIn wsX4_as (va_wsS RX4 227 yX4_isUnder wsX4_isUnder) := goodIn_app (goodIn_of _ (by decide +kernel)) ggX4_as_X4_isUnder
theorem dX4_as_0 : decode cX4_as 0 = .ok (.iload_n 1, 1) := by decide +kernel
theorem dX4_as_1 : decode cX4_as 1 = .ok (.invokestatic 217, 3) := by decide +kernel
theorem dX4_as_4 : decode cX4_as 4 = .ok (.ifCond .eq 10, 3) := by decide +kernel
theorem dX4_as_7 : decode cX4_as 7 = .ok (.iload_n 2, 1) := by decide +kernel
theorem dX4_as_8 : decode cX4_as 8 = .ok (.invokestatic 69, 3) := by decide +kernel
theorem dX4_as_11 : decode cX4_as 11 = .ok (.ifCond .ne 10, 3) := by decide +kernel
theorem dX4_as_14 : decode cX4_as 14 = .ok (.aload_n 0, 1) := by decide +kernel
theorem dX4_as_15 : decode cX4_as 15 = .ok (.ldc 52, 2) := by decide +kernel
theorem dX4_as_17 : decode cX4_as 17 = .ok (.invokevirtual 53, 3) := by decide +kernel
theorem dX4_as_20 : decode cX4_as 20 = .ok (.ireturn, 1) := by decide +kernel
theorem dX4_as_21 : decode cX4_as 21 = .ok (.aload_n 0, 1) := by decide +kernel
theorem dX4_as_22 : decode cX4_as 22 = .ok (.getfield 12, 3) := by decide +kernel
theorem dX4_as_25 : decode cX4_as 25 = .ok (.getfield 220, 3) := by decide +kernel
theorem dX4_as_28 : decode cX4_as 28 = .ok (.iload_n 1, 1) := by decide +kernel
theorem dX4_as_29 : decode cX4_as 29 = .ok (.iaload, 1) := by decide +kernel
theorem dX4_as_30 : decode cX4_as 30 = .ok (.istore_n 3, 1) := by decide +kernel
theorem dX4_as_31 : decode cX4_as 31 = .ok (.aload_n 0, 1) := by decide +kernel
theorem dX4_as_32 : decode cX4_as 32 = .ok (.iload_n 3, 1) := by decide +kernel
theorem dX4_as_33 : decode cX4_as 33 = .ok (.invokevirtual 77, 3) := by decide +kernel
theorem dX4_as_36 : decode cX4_as 36 = .ok (.ifCond .ne 10, 3) := by decide +kernel
theorem dX4_as_39 : decode cX4_as 39 = .ok (.aload_n 0, 1) := by decide +kernel
theorem dX4_as_40 : decode cX4_as 40 = .ok (.ldc 223, 2) := by decide +kernel
theorem dX4_as_42 : decode cX4_as 42 = .ok (.invokevirtual 53, 3) := by decide +kernel
theorem dX4_as_45 : decode cX4_as 45 = .ok (.ireturn, 1) := by decide +kernel
theorem dX4_as_46 : decode cX4_as 46 = .ok (.aload_n 0, 1) := by decide +kernel
theorem dX4_as_47 : decode cX4_as 47 = .ok (.getfield 12, 3) := by decide +kernel
theorem dX4_as_50 : decode cX4_as 50 = .ok (.getfield 224, 3) := by decide +kernel
theorem dX4_as_53 : decode cX4_as 53 = .ok (.iload_n 3, 1) := by decide +kernel
theorem dX4_as_54 : decode cX4_as 54 = .ok (.iaload, 1) := by decide +kernel
theorem dX4_as_55 : decode cX4_as 55 = .ok (.iload_n 2, 1) := by decide +kernel
theorem dX4_as_56 : decode cX4_as 56 = .ok (.invokestatic 227, 3) := by decide +kernel
theorem dX4_as_59 : decode cX4_as 59 = .ok (.ifCond .ne 10, 3) := by decide +kernel
theorem dX4_as_62 : decode cX4_as 62 = .ok (.aload_n 0, 1) := by decide +kernel
theorem dX4_as_63 : decode cX4_as 63 = .ok (.ldc 230, 2) := by decide +kernel
theorem dX4_as_65 : decode cX4_as 65 = .ok (.invokevirtual 53, 3) := by decide +kernel
theorem dX4_as_68 : decode cX4_as 68 = .ok (.ireturn, 1) := by decide +kernel
theorem dX4_as_69 : decode cX4_as 69 = .ok (.iload_n 3, 1) := by decide +kernel
theorem dX4_as_70 : decode cX4_as 70 = .ok (.ireturn, 1) := by decide +kernel
set_option maxRecDepth 20000 in
theorem ggX4_sheet_X4_isSheet : GoodIn wsX4_sheet wsX4_isSheet := goodIn_r _ [8, 9, 10, 7, 11] (by decide +kernel) (by decide +kernel)
set_option maxRecDepth 20000 in
theorem gX4_sheet_X4_isSheet : GoodIn wsX4_sheet (va_wsS RX4 231 yX4_isSheet wsX4_isSheet) := goodIn_app (goodIn_of _ (by decide +kernel)) ggX4_sheet_X4_isSheet
set_option maxRecDepth 20000 in
theorem ggX4_sheet_X4_found : GoodIn wsX4_sheet wsX4_found := goodIn_r _ [15, 1, 16, 9, 10, 7, 11, 29, 30, 31, 32, 33, 34, 35] (by decide +kernel) (by decide +kernel)
set_option maxRecDepth 20000 in
theorem gX4_sheet_X4_found : GoodIn wsX4_sheet (wsV RX4 53 RX4 yX4_found wsX4_found) := goodIn_app (goodIn_of _ (by decide +kernel)) ggX4_sheet_X4_found
set_option maxRecDepth 20000 in
theorem ggX4_sheet_X0_begin : GoodIn wsX4_sheet wsX0_begin := goodIn_r _ [21, 22, 23, 24, 25, 26, 27, 28, 36, 37, 38] (by decide +kernel) (by decide +kernel)
set_option maxRecDepth 20000 in
theorem gX4_sheet_X0_begin : GoodIn wsX4_sheet (wsV RX4 235 RX0 yX0_begin wsX0_begin) := goodIn_app (goodIn_of _ (by decide +kernel)) ggX4_sheet_X0_begin
theorem dX4_sheet_0 : decode cX4_sheet 0 = .ok (.iload_n 1, 1) := by decide +kernel
theorem dX4_sheet_1 : decode cX4_sheet 1 = .ok (.invokestatic 231, 3) := by decide +kernel
theorem dX4_sheet_4 : decode cX4_sheet 4 = .ok (.ifCond .eq 25, 3) := by decide +kernel
theorem dX4_sheet_7 : decode cX4_sheet 7 = .ok (.iload_n 2, 1) := by decide +kernel
theorem dX4_sheet_8 : decode cX4_sheet 8 = .ok (.ifCond .eq 28, 3) := by decide +kernel
theorem dX4_sheet_11 : decode cX4_sheet 11 = .ok (.iload_n 2, 1) := by decide +kernel
theorem dX4_sheet_12 : decode cX4_sheet 12 = .ok (.bipush 8, 2) := by decide +kernel
theorem dX4_sheet_14 : decode cX4_sheet 14 = .ok (.if_icmp .eq 22, 3) := by decide +kernel
theorem dX4_sheet_17 : decode cX4_sheet 17 = .ok (.iload_n 2, 1) := by decide +kernel
theorem dX4_sheet_18 : decode cX4_sheet 18 = .ok (.bipush 16, 2) := by decide +kernel
theorem dX4_sheet_20 : decode cX4_sheet 20 = .ok (.if_icmp .eq 16, 3) := by decide +kernel
theorem dX4_sheet_23 : decode cX4_sheet 23 = .ok (.iload_n 2, 1) := by decide +kernel
theorem dX4_sheet_24 : decode cX4_sheet 24 = .ok (.bipush 32, 2) := by decide +kernel
theorem dX4_sheet_26 : decode cX4_sheet 26 = .ok (.if_icmp .eq 10, 3) := by decide +kernel
theorem dX4_sheet_29 : decode cX4_sheet 29 = .ok (.aload_n 0, 1) := by decide +kernel
theorem dX4_sheet_30 : decode cX4_sheet 30 = .ok (.ldc 52, 2) := by decide +kernel
theorem dX4_sheet_32 : decode cX4_sheet 32 = .ok (.invokevirtual 53, 3) := by decide +kernel
theorem dX4_sheet_35 : decode cX4_sheet 35 = .ok (.ireturn, 1) := by decide +kernel
theorem dX4_sheet_36 : decode cX4_sheet 36 = .ok (.iload_n 3, 1) := by decide +kernel
theorem dX4_sheet_37 : decode cX4_sheet 37 = .ok (.ifCond .ge 10, 3) := by decide +kernel
theorem dX4_sheet_40 : decode cX4_sheet 40 = .ok (.aload_n 0, 1) := by decide +kernel
theorem dX4_sheet_41 : decode cX4_sheet 41 = .ok (.ldc 234, 2) := by decide +kernel
theorem dX4_sheet_43 : decode cX4_sheet 43 = .ok (.invokevirtual 53, 3) := by decide +kernel
theorem dX4_sheet_46 : decode cX4_sheet 46 = .ok (.ireturn, 1) := by decide +kernel
theorem dX4_sheet_47 : decode cX4_sheet 47 = .ok (.iload_n 3, 1) := by decide +kernel
theorem dX4_sheet_48 : decode cX4_sheet 48 = .ok (.bipush 40, 2) := by decide +kernel
theorem dX4_sheet_50 : decode cX4_sheet 50 = .ok (.if_icmp .le 10, 3) := by decide +kernel
theorem dX4_sheet_53 : decode cX4_sheet 53 = .ok (.aload_n 0, 1) := by decide +kernel
theorem dX4_sheet_54 : decode cX4_sheet 54 = .ok (.ldc 52, 2) := by decide +kernel
theorem dX4_sheet_56 : decode cX4_sheet 56 = .ok (.invokevirtual 53, 3) := by decide +kernel
theorem dX4_sheet_59 : decode cX4_sheet 59 = .ok (.ireturn, 1) := by decide +kernel
theorem dX4_sheet_60 : decode cX4_sheet 60 = .ok (.aload_n 0, 1) := by decide +kernel
theorem dX4_sheet_61 : decode cX4_sheet 61 = .ok (.getfield 31, 3) := by decide +kernel
theorem dX4_sheet_64 : decode cX4_sheet 64 = .ok (.iload_n 1, 1) := by decide +kernel
theorem dX4_sheet_65 : decode cX4_sheet 65 = .ok (.aaload, 1) := by decide +kernel
theorem dX4_sheet_66 : decode cX4_sheet 66 = .ok (.iload_n 2, 1) := by decide +kernel
theorem dX4_sheet_67 : decode cX4_sheet 67 = .ok (.iload_n 3, 1) := by decide +kernel
theorem dX4_sheet_68 : decode cX4_sheet 68 = .ok (.invokevirtual 235, 3) := by decide +kernel
theorem dX4_sheet_71 : decode cX4_sheet 71 = .ok (.aload_n 0, 1) := by decide +kernel
theorem dX4_sheet_72 : decode cX4_sheet 72 = .ok (.getfield 31, 3) := by decide +kernel
theorem dX4_sheet_75 : decode cX4_sheet 75 = .ok (.iload_n 1, 1) := by decide +kernel
theorem dX4_sheet_76 : decode cX4_sheet 76 = .ok (.aaload, 1) := by decide +kernel
theorem dX4_sheet_77 : decode cX4_sheet 77 = .ok (.getfield 239, 3) := by decide +kernel
theorem dX4_sheet_80 : decode cX4_sheet 80 = .ok (.ireturn, 1) := by decide +kernel
set_option maxRecDepth 20000 in
theorem ggX4_write_X4_isSheet : GoodIn wsX4_write wsX4_isSheet := goodIn_r _ [7, 8, 9, 6, 10] (by decide +kernel) (by decide +kernel)
set_option maxRecDepth 20000 in
theorem gX4_write_X4_isSheet : GoodIn wsX4_write (va_wsS RX4 231 yX4_isSheet wsX4_isSheet) := goodIn_app (goodIn_of _ (by decide +kernel)) ggX4_write_X4_isSheet
set_option maxRecDepth 20000 in
theorem ggX4_write_X4_found : GoodIn wsX4_write wsX4_found := goodIn_r _ [14, 1, 15, 8, 9, 6, 10, 32, 33, 34, 35, 36, 37, 38] (by decide +kernel) (by decide +kernel)
set_option maxRecDepth 20000 in
theorem gX4_write_X4_found : GoodIn wsX4_write (wsV RX4 53 RX4 yX4_found wsX4_found) := goodIn_app (goodIn_of _ (by decide +kernel)) ggX4_write_X4_found
set_option maxRecDepth 20000 in
theorem ggX4_write_X0_isMissing : GoodIn wsX4_write wsX0_isMissing := goodIn_r _ [20, 21, 39, 40, 41] (by decide +kernel) (by decide +kernel)
set_option maxRecDepth 20000 in
theorem gX4_write_X0_isMissing : GoodIn wsX4_write (wsV RX4 242 RX0 yX0_isMissing wsX0_isMissing) := goodIn_app (goodIn_of _ (by decide +kernel)) ggX4_write_X0_isMissing
set_option maxRecDepth 20000 in
theorem ggX4_write_X0_hasNumbers : GoodIn wsX4_write wsX0_hasNumbers := goodIn_r _ [25, 26, 39, 40, 41] (by decide +kernel) (by decide +kernel)
set_option maxRecDepth 20000 in
theorem gX4_write_X0_hasNumbers : GoodIn wsX4_write (wsV RX4 245 RX0 yX0_hasNumbers wsX0_hasNumbers) := goodIn_app (goodIn_of _ (by decide +kernel)) ggX4_write_X0_hasNumbers
set_option maxRecDepth 20000 in
theorem ggX4_write_X0_put : GoodIn wsX4_write wsX0_put := goodIn_r _ [30, 21, 31, 39, 40, 41] (by decide +kernel) (by decide +kernel)
set_option maxRecDepth 20000 in
theorem gX4_write_X0_put : GoodIn wsX4_write (wsV RX4 248 RX0 yX0_put wsX0_put) := goodIn_app (goodIn_of _ (by decide +kernel)) ggX4_write_X0_put
theorem dX4_write_0 : decode cX4_write 0 = .ok (.iload_n 1, 1) := by decide +kernel
theorem dX4_write_1 : decode cX4_write 1 = .ok (.invokestatic 231, 3) := by decide +kernel
theorem dX4_write_4 : decode cX4_write 4 = .ok (.ifCond .ne 10, 3) := by decide +kernel
theorem dX4_write_7 : decode cX4_write 7 = .ok (.aload_n 0, 1) := by decide +kernel
theorem dX4_write_8 : decode cX4_write 8 = .ok (.ldc 52, 2) := by decide +kernel
theorem dX4_write_10 : decode cX4_write 10 = .ok (.invokevirtual 53, 3) := by decide +kernel
theorem dX4_write_13 : decode cX4_write 13 = .ok (.ireturn, 1) := by decide +kernel
theorem dX4_write_14 : decode cX4_write 14 = .ok (.aload_n 0, 1) := by decide +kernel
theorem dX4_write_15 : decode cX4_write 15 = .ok (.getfield 31, 3) := by decide +kernel
theorem dX4_write_18 : decode cX4_write 18 = .ok (.iload_n 1, 1) := by decide +kernel
theorem dX4_write_19 : decode cX4_write 19 = .ok (.aaload, 1) := by decide +kernel
theorem dX4_write_20 : decode cX4_write 20 = .ok (.invokevirtual 242, 3) := by decide +kernel
theorem dX4_write_23 : decode cX4_write 23 = .ok (.ifCond .eq 10, 3) := by decide +kernel
theorem dX4_write_26 : decode cX4_write 26 = .ok (.aload_n 0, 1) := by decide +kernel
theorem dX4_write_27 : decode cX4_write 27 = .ok (.ldc 223, 2) := by decide +kernel
theorem dX4_write_29 : decode cX4_write 29 = .ok (.invokevirtual 53, 3) := by decide +kernel
theorem dX4_write_32 : decode cX4_write 32 = .ok (.ireturn, 1) := by decide +kernel
theorem dX4_write_33 : decode cX4_write 33 = .ok (.aload_n 0, 1) := by decide +kernel
theorem dX4_write_34 : decode cX4_write 34 = .ok (.getfield 31, 3) := by decide +kernel
theorem dX4_write_37 : decode cX4_write 37 = .ok (.iload_n 1, 1) := by decide +kernel
theorem dX4_write_38 : decode cX4_write 38 = .ok (.aaload, 1) := by decide +kernel
theorem dX4_write_39 : decode cX4_write 39 = .ok (.iload_n 2, 1) := by decide +kernel
theorem dX4_write_40 : decode cX4_write 40 = .ok (.iconst 1, 1) := by decide +kernel
theorem dX4_write_41 : decode cX4_write 41 = .ok (.invokevirtual 245, 3) := by decide +kernel
theorem dX4_write_44 : decode cX4_write 44 = .ok (.ifCond .ne 10, 3) := by decide +kernel
theorem dX4_write_47 : decode cX4_write 47 = .ok (.aload_n 0, 1) := by decide +kernel
theorem dX4_write_48 : decode cX4_write 48 = .ok (.ldc 52, 2) := by decide +kernel
theorem dX4_write_50 : decode cX4_write 50 = .ok (.invokevirtual 53, 3) := by decide +kernel
theorem dX4_write_53 : decode cX4_write 53 = .ok (.ireturn, 1) := by decide +kernel
theorem dX4_write_54 : decode cX4_write 54 = .ok (.aload_n 0, 1) := by decide +kernel
theorem dX4_write_55 : decode cX4_write 55 = .ok (.getfield 31, 3) := by decide +kernel
theorem dX4_write_58 : decode cX4_write 58 = .ok (.iload_n 1, 1) := by decide +kernel
theorem dX4_write_59 : decode cX4_write 59 = .ok (.aaload, 1) := by decide +kernel
theorem dX4_write_60 : decode cX4_write 60 = .ok (.iload_n 2, 1) := by decide +kernel
theorem dX4_write_61 : decode cX4_write 61 = .ok (.iload_n 3, 1) := by decide +kernel
theorem dX4_write_62 : decode cX4_write 62 = .ok (.invokevirtual 248, 3) := by decide +kernel
theorem dX4_write_65 : decode cX4_write 65 = .ok (.iconst 1, 1) := by decide +kernel
theorem dX4_write_66 : decode cX4_write 66 = .ok (.ireturn, 1) := by decide +kernel
set_option maxRecDepth 20000 in
theorem ggX4_copy_X4_isSheet : GoodIn wsX4_copy wsX4_isSheet := goodIn_r _ [14, 15, 16, 13, 17] (by decide +kernel) (by decide +kernel)
set_option maxRecDepth 20000 in
theorem gX4_copy_X4_isSheet : GoodIn wsX4_copy (va_wsS RX4 231 yX4_isSheet wsX4_isSheet) := goodIn_app (goodIn_of _ (by decide +kernel)) ggX4_copy_X4_isSheet
set_option maxRecDepth 20000 in
theorem ggX4_copy_X4_found : GoodIn wsX4_copy wsX4_found := goodIn_r _ [21, 1, 22, 15, 16, 13, 17, 34, 35, 36, 37, 38, 39, 40] (by decide +kernel) (by decide +kernel)
set_option maxRecDepth 20000 in
theorem gX4_copy_X4_found : GoodIn wsX4_copy (wsV RX4 53 RX4 yX4_found wsX4_found) := goodIn_app (goodIn_of _ (by decide +kernel)) ggX4_copy_X4_found
set_option maxRecDepth 20000 in
theorem ggX4_copy_X0_isMissing : GoodIn wsX4_copy wsX0_isMissing := goodIn_r _ [27, 28, 41, 42, 43] (by decide +kernel) (by decide +kernel)
set_option maxRecDepth 20000 in
theorem gX4_copy_X0_isMissing : GoodIn wsX4_copy (wsV RX4 242 RX0 yX0_isMissing wsX0_isMissing) := goodIn_app (goodIn_of _ (by decide +kernel)) ggX4_copy_X0_isMissing
set_option maxRecDepth 20000 in
theorem ggX4_copy_X0_hasNumbers : GoodIn wsX4_copy wsX0_hasNumbers := goodIn_r _ [32, 33, 41, 42, 43] (by decide +kernel) (by decide +kernel)
set_option maxRecDepth 20000 in
theorem gX4_copy_X0_hasNumbers : GoodIn wsX4_copy (wsV RX4 245 RX0 yX0_hasNumbers wsX0_hasNumbers) := goodIn_app (goodIn_of _ (by decide +kernel)) ggX4_copy_X0_hasNumbers
theorem dX4_copy_0 : decode cX4_copy 0 = .ok (.iload_n 1, 1) := by decide +kernel
theorem dX4_copy_1 : decode cX4_copy 1 = .ok (.invokestatic 231, 3) := by decide +kernel
theorem dX4_copy_4 : decode cX4_copy 4 = .ok (.ifCond .eq 10, 3) := by decide +kernel
theorem dX4_copy_7 : decode cX4_copy 7 = .ok (.iload_n 3, 1) := by decide +kernel
theorem dX4_copy_8 : decode cX4_copy 8 = .ok (.invokestatic 231, 3) := by decide +kernel
theorem dX4_copy_11 : decode cX4_copy 11 = .ok (.ifCond .ne 10, 3) := by decide +kernel
theorem dX4_copy_14 : decode cX4_copy 14 = .ok (.aload_n 0, 1) := by decide +kernel
theorem dX4_copy_15 : decode cX4_copy 15 = .ok (.ldc 52, 2) := by decide +kernel
theorem dX4_copy_17 : decode cX4_copy 17 = .ok (.invokevirtual 53, 3) := by decide +kernel
theorem dX4_copy_20 : decode cX4_copy 20 = .ok (.ireturn, 1) := by decide +kernel
theorem dX4_copy_21 : decode cX4_copy 21 = .ok (.aload_n 0, 1) := by decide +kernel
theorem dX4_copy_22 : decode cX4_copy 22 = .ok (.getfield 31, 3) := by decide +kernel
theorem dX4_copy_25 : decode cX4_copy 25 = .ok (.iload_n 1, 1) := by decide +kernel
theorem dX4_copy_26 : decode cX4_copy 26 = .ok (.aaload, 1) := by decide +kernel
theorem dX4_copy_27 : decode cX4_copy 27 = .ok (.astore 6, 2) := by decide +kernel
theorem dX4_copy_29 : decode cX4_copy 29 = .ok (.aload_n 0, 1) := by decide +kernel
theorem dX4_copy_30 : decode cX4_copy 30 = .ok (.getfield 31, 3) := by decide +kernel
theorem dX4_copy_33 : decode cX4_copy 33 = .ok (.iload_n 3, 1) := by decide +kernel
theorem dX4_copy_34 : decode cX4_copy 34 = .ok (.aaload, 1) := by decide +kernel
theorem dX4_copy_35 : decode cX4_copy 35 = .ok (.astore 7, 2) := by decide +kernel
theorem dX4_copy_37 : decode cX4_copy 37 = .ok (.aload 6, 2) := by decide +kernel
theorem dX4_copy_39 : decode cX4_copy 39 = .ok (.invokevirtual 242, 3) := by decide +kernel
theorem dX4_copy_42 : decode cX4_copy 42 = .ok (.ifCond .ne 11, 3) := by decide +kernel
theorem dX4_copy_45 : decode cX4_copy 45 = .ok (.aload 7, 2) := by decide +kernel
theorem dX4_copy_47 : decode cX4_copy 47 = .ok (.invokevirtual 242, 3) := by decide +kernel
theorem dX4_copy_50 : decode cX4_copy 50 = .ok (.ifCond .eq 10, 3) := by decide +kernel
theorem dX4_copy_53 : decode cX4_copy 53 = .ok (.aload_n 0, 1) := by decide +kernel
theorem dX4_copy_54 : decode cX4_copy 54 = .ok (.ldc 223, 2) := by decide +kernel
theorem dX4_copy_56 : decode cX4_copy 56 = .ok (.invokevirtual 53, 3) := by decide +kernel
theorem dX4_copy_59 : decode cX4_copy 59 = .ok (.ireturn, 1) := by decide +kernel
theorem dX4_copy_60 : decode cX4_copy 60 = .ok (.aload 6, 2) := by decide +kernel
theorem dX4_copy_62 : decode cX4_copy 62 = .ok (.getfield 251, 3) := by decide +kernel
theorem dX4_copy_65 : decode cX4_copy 65 = .ok (.aload 7, 2) := by decide +kernel
theorem dX4_copy_67 : decode cX4_copy 67 = .ok (.getfield 251, 3) := by decide +kernel
theorem dX4_copy_70 : decode cX4_copy 70 = .ok (.if_icmp .eq 10, 3) := by decide +kernel
theorem dX4_copy_73 : decode cX4_copy 73 = .ok (.aload_n 0, 1) := by decide +kernel
theorem dX4_copy_74 : decode cX4_copy 74 = .ok (.ldc 230, 2) := by decide +kernel
theorem dX4_copy_76 : decode cX4_copy 76 = .ok (.invokevirtual 53, 3) := by decide +kernel
theorem dX4_copy_79 : decode cX4_copy 79 = .ok (.ireturn, 1) := by decide +kernel
theorem dX4_copy_80 : decode cX4_copy 80 = .ok (.aload 6, 2) := by decide +kernel
theorem dX4_copy_82 : decode cX4_copy 82 = .ok (.iload_n 2, 1) := by decide +kernel
theorem dX4_copy_83 : decode cX4_copy 83 = .ok (.iload 5, 2) := by decide +kernel
theorem dX4_copy_85 : decode cX4_copy 85 = .ok (.invokevirtual 245, 3) := by decide +kernel
theorem dX4_copy_88 : decode cX4_copy 88 = .ok (.ifCond .eq 15, 3) := by decide +kernel
theorem dX4_copy_91 : decode cX4_copy 91 = .ok (.aload 7, 2) := by decide +kernel
theorem dX4_copy_93 : decode cX4_copy 93 = .ok (.iload 4, 2) := by decide +kernel
theorem dX4_copy_95 : decode cX4_copy 95 = .ok (.iload 5, 2) := by decide +kernel
theorem dX4_copy_97 : decode cX4_copy 97 = .ok (.invokevirtual 245, 3) := by decide +kernel
theorem dX4_copy_100 : decode cX4_copy 100 = .ok (.ifCond .ne 10, 3) := by decide +kernel
theorem dX4_copy_103 : decode cX4_copy 103 = .ok (.aload_n 0, 1) := by decide +kernel
theorem dX4_copy_104 : decode cX4_copy 104 = .ok (.ldc 52, 2) := by decide +kernel
theorem dX4_copy_106 : decode cX4_copy 106 = .ok (.invokevirtual 53, 3) := by decide +kernel
theorem dX4_copy_109 : decode cX4_copy 109 = .ok (.ireturn, 1) := by decide +kernel
theorem dX4_copy_110 : decode cX4_copy 110 = .ok (.aload 6, 2) := by decide +kernel
theorem dX4_copy_112 : decode cX4_copy 112 = .ok (.getfield 254, 3) := by decide +kernel
theorem dX4_copy_115 : decode cX4_copy 115 = .ok (.iload_n 2, 1) := by decide +kernel
theorem dX4_copy_116 : decode cX4_copy 116 = .ok (.aload 7, 2) := by decide +kernel
theorem dX4_copy_118 : decode cX4_copy 118 = .ok (.getfield 254, 3) := by decide +kernel
theorem dX4_copy_121 : decode cX4_copy 121 = .ok (.iload 4, 2) := by decide +kernel
theorem dX4_copy_123 : decode cX4_copy 123 = .ok (.iload 5, 2) := by decide +kernel
theorem dX4_copy_125 : decode cX4_copy 125 = .ok (.invokestatic 257, 3) := by decide +kernel
theorem dX4_copy_128 : decode cX4_copy 128 = .ok (.iload 5, 2) := by decide +kernel
theorem dX4_copy_130 : decode cX4_copy 130 = .ok (.ireturn, 1) := by decide +kernel
set_option maxRecDepth 20000 in
theorem ggX4_load_X4_isSheet : GoodIn wsX4_load wsX4_isSheet := goodIn_r _ [11, 12, 13, 10, 14] (by decide +kernel) (by decide +kernel)
set_option maxRecDepth 20000 in
theorem gX4_load_X4_isSheet : GoodIn wsX4_load (va_wsS RX4 231 yX4_isSheet wsX4_isSheet) := goodIn_app (goodIn_of _ (by decide +kernel)) ggX4_load_X4_isSheet
set_option maxRecDepth 20000 in
theorem ggX4_load_X4_found : GoodIn wsX4_load wsX4_found := goodIn_r _ [18, 1, 19, 12, 13, 10, 14, 29, 30, 31, 32, 33, 34, 35] (by decide +kernel) (by decide +kernel)
set_option maxRecDepth 20000 in
theorem gX4_load_X4_found : GoodIn wsX4_load (wsV RX4 53 RX4 yX4_found wsX4_found) := goodIn_app (goodIn_of _ (by decide +kernel)) ggX4_load_X4_found
set_option maxRecDepth 20000 in
theorem ggX4_load_X0_isMissing : GoodIn wsX4_load wsX0_isMissing := goodIn_r _ [24, 25, 36, 37, 38] (by decide +kernel) (by decide +kernel)
set_option maxRecDepth 20000 in
theorem gX4_load_X0_isMissing : GoodIn wsX4_load (wsV RX4 242 RX0 yX0_isMissing wsX0_isMissing) := goodIn_app (goodIn_of _ (by decide +kernel)) ggX4_load_X0_isMissing
set_option maxRecDepth 20000 in
theorem ggX4_load_X4_isPlace : GoodIn wsX4_load wsX4_isPlace := goodIn_r _ [28] (by decide +kernel) (by decide +kernel)
set_option maxRecDepth 20000 in
theorem gX4_load_X4_isPlace : GoodIn wsX4_load (va_wsS RX4 44 yX4_isPlace wsX4_isPlace) := goodIn_app (goodIn_of _ (by decide +kernel)) ggX4_load_X4_isPlace
set_option maxRecDepth 20000 in
theorem ggX4_load_X4_isWithin : GoodIn wsX4_load wsX4_isWithin := goodIn_r _ [14] (by decide +kernel) (by decide +kernel)
set_option maxRecDepth 20000 in
theorem gX4_load_X4_isWithin : GoodIn wsX4_load (va_wsS RX4 48 yX4_isWithin wsX4_isWithin) := goodIn_app (goodIn_of _ (by decide +kernel)) ggX4_load_X4_isWithin
theorem dX4_load_0 : decode cX4_load 0 = .ok (.iload_n 1, 1) := by decide +kernel
theorem dX4_load_1 : decode cX4_load 1 = .ok (.invokestatic 231, 3) := by decide +kernel
theorem dX4_load_4 : decode cX4_load 4 = .ok (.ifCond .ne 10, 3) := by decide +kernel
theorem dX4_load_7 : decode cX4_load 7 = .ok (.aload_n 0, 1) := by decide +kernel
theorem dX4_load_8 : decode cX4_load 8 = .ok (.ldc 52, 2) := by decide +kernel
theorem dX4_load_10 : decode cX4_load 10 = .ok (.invokevirtual 53, 3) := by decide +kernel
theorem dX4_load_13 : decode cX4_load 13 = .ok (.ireturn, 1) := by decide +kernel
theorem dX4_load_14 : decode cX4_load 14 = .ok (.aload_n 0, 1) := by decide +kernel
theorem dX4_load_15 : decode cX4_load 15 = .ok (.getfield 31, 3) := by decide +kernel
theorem dX4_load_18 : decode cX4_load 18 = .ok (.iload_n 1, 1) := by decide +kernel
theorem dX4_load_19 : decode cX4_load 19 = .ok (.aaload, 1) := by decide +kernel
theorem dX4_load_20 : decode cX4_load 20 = .ok (.astore_n 2, 1) := by decide +kernel
theorem dX4_load_21 : decode cX4_load 21 = .ok (.aload_n 2, 1) := by decide +kernel
theorem dX4_load_22 : decode cX4_load 22 = .ok (.invokevirtual 242, 3) := by decide +kernel
theorem dX4_load_25 : decode cX4_load 25 = .ok (.ifCond .eq 10, 3) := by decide +kernel
theorem dX4_load_28 : decode cX4_load 28 = .ok (.aload_n 0, 1) := by decide +kernel
theorem dX4_load_29 : decode cX4_load 29 = .ok (.ldc 223, 2) := by decide +kernel
theorem dX4_load_31 : decode cX4_load 31 = .ok (.invokevirtual 53, 3) := by decide +kernel
theorem dX4_load_34 : decode cX4_load 34 = .ok (.ireturn, 1) := by decide +kernel
theorem dX4_load_35 : decode cX4_load 35 = .ok (.iconst 0, 1) := by decide +kernel
theorem dX4_load_36 : decode cX4_load 36 = .ok (.istore_n 3, 1) := by decide +kernel
theorem dX4_load_37 : decode cX4_load 37 = .ok (.iload_n 3, 1) := by decide +kernel
theorem dX4_load_38 : decode cX4_load 38 = .ok (.aload_n 2, 1) := by decide +kernel
theorem dX4_load_39 : decode cX4_load 39 = .ok (.getfield 239, 3) := by decide +kernel
theorem dX4_load_42 : decode cX4_load 42 = .ok (.if_icmp .ge 47, 3) := by decide +kernel
theorem dX4_load_45 : decode cX4_load 45 = .ok (.iload_n 3, 1) := by decide +kernel
theorem dX4_load_46 : decode cX4_load 46 = .ok (.invokestatic 44, 3) := by decide +kernel
theorem dX4_load_49 : decode cX4_load 49 = .ok (.ifCond .eq 40, 3) := by decide +kernel
theorem dX4_load_52 : decode cX4_load 52 = .ok (.aload_n 2, 1) := by decide +kernel
theorem dX4_load_53 : decode cX4_load 53 = .ok (.getfield 254, 3) := by decide +kernel
theorem dX4_load_56 : decode cX4_load 56 = .ok (.iload_n 3, 1) := by decide +kernel
theorem dX4_load_57 : decode cX4_load 57 = .ok (.iaload, 1) := by decide +kernel
theorem dX4_load_58 : decode cX4_load 58 = .ok (.iconst 0, 1) := by decide +kernel
theorem dX4_load_59 : decode cX4_load 59 = .ok (.sipush 9999, 3) := by decide +kernel
theorem dX4_load_62 : decode cX4_load 62 = .ok (.invokestatic 48, 3) := by decide +kernel
theorem dX4_load_65 : decode cX4_load 65 = .ok (.ifCond .eq 24, 3) := by decide +kernel
theorem dX4_load_68 : decode cX4_load 68 = .ok (.aload_n 0, 1) := by decide +kernel
theorem dX4_load_69 : decode cX4_load 69 = .ok (.getfield 12, 3) := by decide +kernel
theorem dX4_load_72 : decode cX4_load 72 = .ok (.getfield 57, 3) := by decide +kernel
theorem dX4_load_75 : decode cX4_load 75 = .ok (.iload_n 3, 1) := by decide +kernel
theorem dX4_load_76 : decode cX4_load 76 = .ok (.aload_n 2, 1) := by decide +kernel
theorem dX4_load_77 : decode cX4_load 77 = .ok (.getfield 254, 3) := by decide +kernel
theorem dX4_load_80 : decode cX4_load 80 = .ok (.iload_n 3, 1) := by decide +kernel
theorem dX4_load_81 : decode cX4_load 81 = .ok (.iaload, 1) := by decide +kernel
theorem dX4_load_82 : decode cX4_load 82 = .ok (.iastore, 1) := by decide +kernel
theorem dX4_load_83 : decode cX4_load 83 = .ok (.iinc 3 1, 3) := by decide +kernel
theorem dX4_load_86 : decode cX4_load 86 = .ok (.goto (-49), 3) := by decide +kernel
theorem dX4_load_89 : decode cX4_load 89 = .ok (.iload_n 3, 1) := by decide +kernel
theorem dX4_load_90 : decode cX4_load 90 = .ok (.ireturn, 1) := by decide +kernel
set_option maxRecDepth 20000 in
theorem ggX4_judge_X4_isSheet : GoodIn wsX4_judge wsX4_isSheet := goodIn_r _ [11, 12, 13, 10, 14] (by decide +kernel) (by decide +kernel)
set_option maxRecDepth 20000 in
theorem gX4_judge_X4_isSheet : GoodIn wsX4_judge (va_wsS RX4 231 yX4_isSheet wsX4_isSheet) := goodIn_app (goodIn_of _ (by decide +kernel)) ggX4_judge_X4_isSheet
set_option maxRecDepth 20000 in
theorem ggX4_judge_X4_found : GoodIn wsX4_judge wsX4_found := goodIn_r _ [18, 1, 19, 12, 13, 10, 14, 66, 67, 68, 69, 70, 71, 72] (by decide +kernel) (by decide +kernel)
set_option maxRecDepth 20000 in
theorem gX4_judge_X4_found : GoodIn wsX4_judge (wsV RX4 53 RX4 yX4_found wsX4_found) := goodIn_app (goodIn_of _ (by decide +kernel)) ggX4_judge_X4_found
set_option maxRecDepth 20000 in
theorem ggX4_judge_X0_isMissing : GoodIn wsX4_judge wsX0_isMissing := goodIn_r _ [24, 25, 73, 74, 75] (by decide +kernel) (by decide +kernel)
set_option maxRecDepth 20000 in
theorem gX4_judge_X0_isMissing : GoodIn wsX4_judge (wsV RX4 242 RX0 yX0_isMissing wsX0_isMissing) := goodIn_app (goodIn_of _ (by decide +kernel)) ggX4_judge_X0_isMissing
set_option maxRecDepth 20000 in
theorem ggX4_judge_X3_settle : GoodIn wsX4_judge wsX3_settle := goodIn_r _ [30, 31, 32, 33, 34, 35, 36, 37, 38, 39, 40, 10, 41, 42, 43, 44, 29, 45, 46, 47, 48, 49, 50, 51, 52, 53, 54, 55, 56, 57, 58, 59, 60, 76, 77, 78, 79, 80, 81, 82, 83, 84, 85, 86, 87, 88] (by decide +kernel) (by decide +kernel)
set_option maxRecDepth 20000 in
theorem gX4_judge_X3_settle : GoodIn wsX4_judge (wsV RX4 60 RX3 yX3_settle wsX3_settle) := goodIn_app (goodIn_of _ (by decide +kernel)) ggX4_judge_X3_settle
set_option maxRecDepth 20000 in
theorem ggX4_judge_X4_isThere : GoodIn wsX4_judge wsX4_isThere := goodIn_r _ [64, 4, 65, 12, 13, 10, 14, 66, 67, 68, 69, 70, 71, 72, 76, 77, 78, 79, 80, 81, 82, 83, 84, 85, 86, 87, 88] (by decide +kernel) (by decide +kernel)
set_option maxRecDepth 20000 in
theorem gX4_judge_X4_isThere : GoodIn wsX4_judge (wsV RX4 77 RX4 yX4_isThere wsX4_isThere) := goodIn_app (goodIn_of _ (by decide +kernel)) ggX4_judge_X4_isThere
theorem dX4_judge_0 : decode cX4_judge 0 = .ok (.iload_n 1, 1) := by decide +kernel
theorem dX4_judge_1 : decode cX4_judge 1 = .ok (.invokestatic 231, 3) := by decide +kernel
theorem dX4_judge_4 : decode cX4_judge 4 = .ok (.ifCond .ne 10, 3) := by decide +kernel
theorem dX4_judge_7 : decode cX4_judge 7 = .ok (.aload_n 0, 1) := by decide +kernel
theorem dX4_judge_8 : decode cX4_judge 8 = .ok (.ldc 52, 2) := by decide +kernel
theorem dX4_judge_10 : decode cX4_judge 10 = .ok (.invokevirtual 53, 3) := by decide +kernel
theorem dX4_judge_13 : decode cX4_judge 13 = .ok (.ireturn, 1) := by decide +kernel
theorem dX4_judge_14 : decode cX4_judge 14 = .ok (.aload_n 0, 1) := by decide +kernel
theorem dX4_judge_15 : decode cX4_judge 15 = .ok (.getfield 31, 3) := by decide +kernel
theorem dX4_judge_18 : decode cX4_judge 18 = .ok (.iload_n 1, 1) := by decide +kernel
theorem dX4_judge_19 : decode cX4_judge 19 = .ok (.aaload, 1) := by decide +kernel
theorem dX4_judge_20 : decode cX4_judge 20 = .ok (.astore_n 2, 1) := by decide +kernel
theorem dX4_judge_21 : decode cX4_judge 21 = .ok (.aload_n 2, 1) := by decide +kernel
theorem dX4_judge_22 : decode cX4_judge 22 = .ok (.invokevirtual 242, 3) := by decide +kernel
theorem dX4_judge_25 : decode cX4_judge 25 = .ok (.ifCond .eq 10, 3) := by decide +kernel
theorem dX4_judge_28 : decode cX4_judge 28 = .ok (.aload_n 0, 1) := by decide +kernel
theorem dX4_judge_29 : decode cX4_judge 29 = .ok (.ldc 223, 2) := by decide +kernel
theorem dX4_judge_31 : decode cX4_judge 31 = .ok (.invokevirtual 53, 3) := by decide +kernel
theorem dX4_judge_34 : decode cX4_judge 34 = .ok (.ireturn, 1) := by decide +kernel
theorem dX4_judge_35 : decode cX4_judge 35 = .ok (.aload_n 0, 1) := by decide +kernel
theorem dX4_judge_36 : decode cX4_judge 36 = .ok (.getfield 12, 3) := by decide +kernel
theorem dX4_judge_39 : decode cX4_judge 39 = .ok (.invokevirtual 60, 3) := by decide +kernel
theorem dX4_judge_42 : decode cX4_judge 42 = .ok (.iconst 0, 1) := by decide +kernel
theorem dX4_judge_43 : decode cX4_judge 43 = .ok (.istore_n 3, 1) := by decide +kernel
theorem dX4_judge_44 : decode cX4_judge 44 = .ok (.iload_n 3, 1) := by decide +kernel
theorem dX4_judge_45 : decode cX4_judge 45 = .ok (.aload_n 2, 1) := by decide +kernel
theorem dX4_judge_46 : decode cX4_judge 46 = .ok (.getfield 239, 3) := by decide +kernel
theorem dX4_judge_49 : decode cX4_judge 49 = .ok (.if_icmp .ge 39, 3) := by decide +kernel
theorem dX4_judge_52 : decode cX4_judge 52 = .ok (.aload_n 0, 1) := by decide +kernel
theorem dX4_judge_53 : decode cX4_judge 53 = .ok (.iload_n 3, 1) := by decide +kernel
theorem dX4_judge_54 : decode cX4_judge 54 = .ok (.invokevirtual 77, 3) := by decide +kernel
theorem dX4_judge_57 : decode cX4_judge 57 = .ok (.ifCond .eq 21, 3) := by decide +kernel
theorem dX4_judge_60 : decode cX4_judge 60 = .ok (.aload_n 0, 1) := by decide +kernel
theorem dX4_judge_61 : decode cX4_judge 61 = .ok (.getfield 12, 3) := by decide +kernel
theorem dX4_judge_64 : decode cX4_judge 64 = .ok (.getfield 83, 3) := by decide +kernel
theorem dX4_judge_67 : decode cX4_judge 67 = .ok (.iload_n 3, 1) := by decide +kernel
theorem dX4_judge_68 : decode cX4_judge 68 = .ok (.iaload, 1) := by decide +kernel
theorem dX4_judge_69 : decode cX4_judge 69 = .ok (.aload_n 2, 1) := by decide +kernel
theorem dX4_judge_70 : decode cX4_judge 70 = .ok (.getfield 254, 3) := by decide +kernel
theorem dX4_judge_73 : decode cX4_judge 73 = .ok (.iload_n 3, 1) := by decide +kernel
theorem dX4_judge_74 : decode cX4_judge 74 = .ok (.iaload, 1) := by decide +kernel
theorem dX4_judge_75 : decode cX4_judge 75 = .ok (.if_icmp .eq 7, 3) := by decide +kernel
theorem dX4_judge_78 : decode cX4_judge 78 = .ok (.iconst 1, 1) := by decide +kernel
theorem dX4_judge_79 : decode cX4_judge 79 = .ok (.iload_n 3, 1) := by decide +kernel
theorem dX4_judge_80 : decode cX4_judge 80 = .ok (.iadd, 1) := by decide +kernel
theorem dX4_judge_81 : decode cX4_judge 81 = .ok (.ireturn, 1) := by decide +kernel
theorem dX4_judge_82 : decode cX4_judge 82 = .ok (.iinc 3 1, 3) := by decide +kernel
theorem dX4_judge_85 : decode cX4_judge 85 = .ok (.goto (-41), 3) := by decide +kernel
theorem dX4_judge_88 : decode cX4_judge 88 = .ok (.iconst 0, 1) := by decide +kernel
theorem dX4_judge_89 : decode cX4_judge 89 = .ok (.ireturn, 1) := by decide +kernel
set_option maxRecDepth 20000 in
theorem ggX4_image_X3_become : GoodIn wsX4_image wsX3_become := goodIn_r _ [8, 9, 10, 11, 12, 13, 14, 15, 16, 17, 18, 19, 20, 21, 22, 30, 31, 32, 33, 34, 35, 36, 37, 38, 39, 40, 41, 42] (by decide +kernel) (by decide +kernel)
set_option maxRecDepth 20000 in
theorem gX4_image_X3_become : GoodIn wsX4_image (wsV RX4 136 RX3 yX3_become wsX3_become) := goodIn_app (goodIn_of _ (by decide +kernel)) ggX4_image_X3_become
theorem dX4_image_0 : decode cX4_image 0 = .ok (.aload_n 0, 1) := by decide +kernel
theorem dX4_image_1 : decode cX4_image 1 = .ok (.getfield 16, 3) := by decide +kernel
theorem dX4_image_4 : decode cX4_image 4 = .ok (.aload_n 0, 1) := by decide +kernel
theorem dX4_image_5 : decode cX4_image 5 = .ok (.getfield 12, 3) := by decide +kernel
theorem dX4_image_8 : decode cX4_image 8 = .ok (.invokevirtual 136, 3) := by decide +kernel
theorem dX4_image_11 : decode cX4_image 11 = .ok (.aload_n 0, 1) := by decide +kernel
theorem dX4_image_12 : decode cX4_image 12 = .ok (.iconst 1, 1) := by decide +kernel
theorem dX4_image_13 : decode cX4_image 13 = .ok (.putfield 40, 3) := by decide +kernel
theorem dX4_image_16 : decode cX4_image 16 = .ok (.iconst 1, 1) := by decide +kernel
theorem dX4_image_17 : decode cX4_image 17 = .ok (.ireturn, 1) := by decide +kernel
set_option maxRecDepth 20000 in
theorem ggX4_undo_X4_found : GoodIn wsX4_undo wsX4_found := goodIn_r _ [10, 11, 12, 13, 14, 9, 15, 35, 36, 37, 38, 39, 40, 41] (by decide +kernel) (by decide +kernel)
set_option maxRecDepth 20000 in
theorem gX4_undo_X4_found : GoodIn wsX4_undo (wsV RX4 53 RX4 yX4_found wsX4_found) := goodIn_app (goodIn_of _ (by decide +kernel)) ggX4_undo_X4_found
set_option maxRecDepth 20000 in
theorem ggX4_undo_X3_become : GoodIn wsX4_undo wsX3_become := goodIn_r _ [20, 21, 22, 23, 24, 25, 26, 27, 28, 29, 30, 31, 32, 33, 34, 42, 43, 44, 45, 46, 47, 48, 49, 50, 51, 52, 53, 54] (by decide +kernel) (by decide +kernel)
set_option maxRecDepth 20000 in
theorem gX4_undo_X3_become : GoodIn wsX4_undo (wsV RX4 136 RX3 yX3_become wsX3_become) := goodIn_app (goodIn_of _ (by decide +kernel)) ggX4_undo_X3_become
theorem dX4_undo_0 : decode cX4_undo 0 = .ok (.aload_n 0, 1) := by decide +kernel
theorem dX4_undo_1 : decode cX4_undo 1 = .ok (.getfield 40, 3) := by decide +kernel
theorem dX4_undo_4 : decode cX4_undo 4 = .ok (.ifCond .ne 10, 3) := by decide +kernel
theorem dX4_undo_7 : decode cX4_undo 7 = .ok (.aload_n 0, 1) := by decide +kernel
theorem dX4_undo_8 : decode cX4_undo 8 = .ok (.ldc 103, 2) := by decide +kernel
theorem dX4_undo_10 : decode cX4_undo 10 = .ok (.invokevirtual 53, 3) := by decide +kernel
theorem dX4_undo_13 : decode cX4_undo 13 = .ok (.ireturn, 1) := by decide +kernel
theorem dX4_undo_14 : decode cX4_undo 14 = .ok (.aload_n 0, 1) := by decide +kernel
theorem dX4_undo_15 : decode cX4_undo 15 = .ok (.getfield 12, 3) := by decide +kernel
theorem dX4_undo_18 : decode cX4_undo 18 = .ok (.aload_n 0, 1) := by decide +kernel
theorem dX4_undo_19 : decode cX4_undo 19 = .ok (.getfield 16, 3) := by decide +kernel
theorem dX4_undo_22 : decode cX4_undo 22 = .ok (.invokevirtual 136, 3) := by decide +kernel
theorem dX4_undo_25 : decode cX4_undo 25 = .ok (.aload_n 0, 1) := by decide +kernel
theorem dX4_undo_26 : decode cX4_undo 26 = .ok (.getfield 12, 3) := by decide +kernel
theorem dX4_undo_29 : decode cX4_undo 29 = .ok (.getfield 110, 3) := by decide +kernel
theorem dX4_undo_32 : decode cX4_undo 32 = .ok (.ireturn, 1) := by decide +kernel
theorem dX4_tear_0 : decode cX4_tear 0 = .ok (.aload_n 0, 1) := by decide +kernel
theorem dX4_tear_1 : decode cX4_tear 1 = .ok (.getfield 40, 3) := by decide +kernel
theorem dX4_tear_4 : decode cX4_tear 4 = .ok (.ifCond .eq 7, 3) := by decide +kernel
theorem dX4_tear_7 : decode cX4_tear 7 = .ok (.iconst 1, 1) := by decide +kernel
theorem dX4_tear_8 : decode cX4_tear 8 = .ok (.goto 4, 3) := by decide +kernel
theorem dX4_tear_11 : decode cX4_tear 11 = .ok (.iconst 0, 1) := by decide +kernel
theorem dX4_tear_12 : decode cX4_tear 12 = .ok (.istore_n 1, 1) := by decide +kernel
theorem dX4_tear_13 : decode cX4_tear 13 = .ok (.aload_n 0, 1) := by decide +kernel
theorem dX4_tear_14 : decode cX4_tear 14 = .ok (.iconst 0, 1) := by decide +kernel
theorem dX4_tear_15 : decode cX4_tear 15 = .ok (.putfield 40, 3) := by decide +kernel
theorem dX4_tear_18 : decode cX4_tear 18 = .ok (.iload_n 1, 1) := by decide +kernel
theorem dX4_tear_19 : decode cX4_tear 19 = .ok (.ireturn, 1) := by decide +kernel
set_option maxRecDepth 20000 in
theorem ggX4_count_X3_settle : GoodIn wsX4_count wsX3_settle := goodIn_r _ [13, 14, 15, 16, 17, 18, 19, 20, 21, 22, 23, 24, 25, 26, 27, 28, 12, 29, 30, 31, 32, 33, 34, 35, 36, 37, 38, 39, 40, 41, 42, 43, 44, 95, 96, 97, 98, 99, 100, 101, 102, 103, 104, 105, 106, 107] (by decide +kernel) (by decide +kernel)
set_option maxRecDepth 20000 in
theorem gX4_count_X3_settle : GoodIn wsX4_count (wsV RX4 60 RX3 yX3_settle wsX3_settle) := goodIn_app (goodIn_of _ (by decide +kernel)) ggX4_count_X3_settle
set_option maxRecDepth 20000 in
theorem ggX4_count_X3_regretters : GoodIn wsX4_count wsX3_regretters := goodIn_r _ [48, 16, 49, 50, 51, 12, 52, 18, 42, 15, 53, 54, 55, 56, 23, 24, 25, 57, 58, 95, 96, 97, 98, 99, 100, 101, 102, 103, 104, 105, 106, 107] (by decide +kernel) (by decide +kernel)
set_option maxRecDepth 20000 in
theorem gX4_count_X3_regretters : GoodIn wsX4_count (wsV RX4 124 RX3 yX3_regretters wsX3_regretters) := goodIn_app (goodIn_of _ (by decide +kernel)) ggX4_count_X3_regretters
set_option maxRecDepth 20000 in
theorem ggX4_count_J6_bitCount_0f7a4 : GoodIn wsX4_count wsJ6_bitCount_0f7a4 := goodIn_r _ [62, 63, 64, 65] (by decide +kernel) (by decide +kernel)
set_option maxRecDepth 20000 in
theorem gX4_count_J6_bitCount_0f7a4 : GoodIn wsX4_count (va_wsS RX4 168 yJ6_bitCount_0f7a4 wsJ6_bitCount_0f7a4) := goodIn_app (goodIn_of _ (by decide +kernel)) ggX4_count_J6_bitCount_0f7a4
set_option maxRecDepth 20000 in
theorem ggX4_count_X3_visitedPlaces : GoodIn wsX4_count wsX3_visitedPlaces := goodIn_r _ [69, 15, 95, 96, 97, 98, 99, 100, 101, 102, 103, 104, 105, 106, 107] (by decide +kernel) (by decide +kernel)
set_option maxRecDepth 20000 in
theorem gX4_count_X3_visitedPlaces : GoodIn wsX4_count (wsV RX4 127 RX3 yX3_visitedPlaces wsX3_visitedPlaces) := goodIn_app (goodIn_of _ (by decide +kernel)) ggX4_count_X3_visitedPlaces
set_option maxRecDepth 20000 in
theorem ggX4_count_X3_goodsOfAll : GoodIn wsX4_count wsX3_goodsOfAll := goodIn_r _ [73, 16, 74, 95, 96, 97, 98, 99, 100, 101, 102, 103, 104, 105, 106, 107] (by decide +kernel) (by decide +kernel)
set_option maxRecDepth 20000 in
theorem gX4_count_X3_goodsOfAll : GoodIn wsX4_count (wsV RX4 120 RX3 yX3_goodsOfAll wsX3_goodsOfAll) := goodIn_app (goodIn_of _ (by decide +kernel)) ggX4_count_X3_goodsOfAll
set_option maxRecDepth 20000 in
theorem ggX4_count_X3_fullSpots : GoodIn wsX4_count wsX3_fullSpots := goodIn_r _ [78, 79, 95, 96, 97, 98, 99, 100, 101, 102, 103, 104, 105, 106, 107] (by decide +kernel) (by decide +kernel)
set_option maxRecDepth 20000 in
theorem gX4_count_X3_fullSpots : GoodIn wsX4_count (wsV RX4 263 RX3 yX3_fullSpots wsX3_fullSpots) := goodIn_app (goodIn_of _ (by decide +kernel)) ggX4_count_X3_fullSpots
set_option maxRecDepth 20000 in
theorem ggX4_count_X4_found : GoodIn wsX4_count wsX4_found := goodIn_r _ [83, 8, 84, 85, 86, 24, 87, 88, 89, 90, 91, 92, 93, 94] (by decide +kernel) (by decide +kernel)
set_option maxRecDepth 20000 in
theorem gX4_count_X4_found : GoodIn wsX4_count (wsV RX4 53 RX4 yX4_found wsX4_found) := goodIn_app (goodIn_of _ (by decide +kernel)) ggX4_count_X4_found
theorem dX4_count_0 : decode cX4_count 0 = .ok (.aload_n 0, 1) := by decide +kernel
theorem dX4_count_1 : decode cX4_count 1 = .ok (.getfield 12, 3) := by decide +kernel
theorem dX4_count_4 : decode cX4_count 4 = .ok (.invokevirtual 60, 3) := by decide +kernel
theorem dX4_count_7 : decode cX4_count 7 = .ok (.iload_n 1, 1) := by decide +kernel
theorem dX4_count_8 : decode cX4_count 8 = .ok (.tableswitch 121 0 7 #[48, 56, 64, 75, 86, 94, 105, 113], 48) := by decide +kernel
theorem dX4_count_56 : decode cX4_count 56 = .ok (.aload_n 0, 1) := by decide +kernel
theorem dX4_count_57 : decode cX4_count 57 = .ok (.getfield 12, 3) := by decide +kernel
theorem dX4_count_60 : decode cX4_count 60 = .ok (.getfield 110, 3) := by decide +kernel
theorem dX4_count_63 : decode cX4_count 63 = .ok (.ireturn, 1) := by decide +kernel
theorem dX4_count_64 : decode cX4_count 64 = .ok (.aload_n 0, 1) := by decide +kernel
theorem dX4_count_65 : decode cX4_count 65 = .ok (.getfield 12, 3) := by decide +kernel
theorem dX4_count_68 : decode cX4_count 68 = .ok (.getfield 165, 3) := by decide +kernel
theorem dX4_count_71 : decode cX4_count 71 = .ok (.ireturn, 1) := by decide +kernel
theorem dX4_count_72 : decode cX4_count 72 = .ok (.aload_n 0, 1) := by decide +kernel
theorem dX4_count_73 : decode cX4_count 73 = .ok (.getfield 12, 3) := by decide +kernel
theorem dX4_count_76 : decode cX4_count 76 = .ok (.invokevirtual 124, 3) := by decide +kernel
theorem dX4_count_79 : decode cX4_count 79 = .ok (.invokestatic 168, 3) := by decide +kernel
theorem dX4_count_82 : decode cX4_count 82 = .ok (.ireturn, 1) := by decide +kernel
theorem dX4_count_83 : decode cX4_count 83 = .ok (.aload_n 0, 1) := by decide +kernel
theorem dX4_count_84 : decode cX4_count 84 = .ok (.getfield 12, 3) := by decide +kernel
theorem dX4_count_87 : decode cX4_count 87 = .ok (.invokevirtual 127, 3) := by decide +kernel
theorem dX4_count_90 : decode cX4_count 90 = .ok (.invokestatic 168, 3) := by decide +kernel
theorem dX4_count_93 : decode cX4_count 93 = .ok (.ireturn, 1) := by decide +kernel
theorem dX4_count_94 : decode cX4_count 94 = .ok (.aload_n 0, 1) := by decide +kernel
theorem dX4_count_95 : decode cX4_count 95 = .ok (.getfield 12, 3) := by decide +kernel
theorem dX4_count_98 : decode cX4_count 98 = .ok (.invokevirtual 120, 3) := by decide +kernel
theorem dX4_count_101 : decode cX4_count 101 = .ok (.ireturn, 1) := by decide +kernel
theorem dX4_count_102 : decode cX4_count 102 = .ok (.aload_n 0, 1) := by decide +kernel
theorem dX4_count_103 : decode cX4_count 103 = .ok (.getfield 25, 3) := by decide +kernel
theorem dX4_count_106 : decode cX4_count 106 = .ok (.getfield 192, 3) := by decide +kernel
theorem dX4_count_109 : decode cX4_count 109 = .ok (.getfield 196, 3) := by decide +kernel
theorem dX4_count_112 : decode cX4_count 112 = .ok (.ireturn, 1) := by decide +kernel
theorem dX4_count_113 : decode cX4_count 113 = .ok (.aload_n 0, 1) := by decide +kernel
theorem dX4_count_114 : decode cX4_count 114 = .ok (.getfield 12, 3) := by decide +kernel
theorem dX4_count_117 : decode cX4_count 117 = .ok (.getfield 189, 3) := by decide +kernel
theorem dX4_count_120 : decode cX4_count 120 = .ok (.ireturn, 1) := by decide +kernel
theorem dX4_count_121 : decode cX4_count 121 = .ok (.aload_n 0, 1) := by decide +kernel
theorem dX4_count_122 : decode cX4_count 122 = .ok (.getfield 12, 3) := by decide +kernel
theorem dX4_count_125 : decode cX4_count 125 = .ok (.invokevirtual 263, 3) := by decide +kernel
theorem dX4_count_128 : decode cX4_count 128 = .ok (.ireturn, 1) := by decide +kernel
theorem dX4_count_129 : decode cX4_count 129 = .ok (.aload_n 0, 1) := by decide +kernel
theorem dX4_count_130 : decode cX4_count 130 = .ok (.ldc 52, 2) := by decide +kernel
theorem dX4_count_132 : decode cX4_count 132 = .ok (.invokevirtual 53, 3) := by decide +kernel
theorem dX4_count_135 : decode cX4_count 135 = .ok (.ireturn, 1) := by decide +kernel
set_option maxRecDepth 20000 in
theorem ggX4_status_X4_isWithin : GoodIn wsX4_status wsX4_isWithin := goodIn_r _ [6] (by decide +kernel) (by decide +kernel)
set_option maxRecDepth 20000 in
theorem gX4_status_X4_isWithin : GoodIn wsX4_status (va_wsS RX4 48 yX4_isWithin wsX4_isWithin) := goodIn_app (goodIn_of _ (by decide +kernel)) ggX4_status_X4_isWithin
set_option maxRecDepth 20000 in
theorem ggX4_status_X4_found : GoodIn wsX4_status wsX4_found := goodIn_r _ [10, 1, 2, 3, 4, 5, 6, 11, 12, 13, 14, 15, 16, 17] (by decide +kernel) (by decide +kernel)
set_option maxRecDepth 20000 in
theorem gX4_status_X4_found : GoodIn wsX4_status (wsV RX4 53 RX4 yX4_found wsX4_found) := goodIn_app (goodIn_of _ (by decide +kernel)) ggX4_status_X4_found
theorem dX4_status_0 : decode cX4_status 0 = .ok (.iload_n 1, 1) := by decide +kernel
theorem dX4_status_1 : decode cX4_status 1 = .ok (.iconst (-1), 1) := by decide +kernel
theorem dX4_status_2 : decode cX4_status 2 = .ok (.bipush 6, 2) := by decide +kernel
theorem dX4_status_4 : decode cX4_status 4 = .ok (.invokestatic 48, 3) := by decide +kernel
theorem dX4_status_7 : decode cX4_status 7 = .ok (.ifCond .ne 10, 3) := by decide +kernel
theorem dX4_status_10 : decode cX4_status 10 = .ok (.aload_n 0, 1) := by decide +kernel
theorem dX4_status_11 : decode cX4_status 11 = .ok (.ldc 52, 2) := by decide +kernel
theorem dX4_status_13 : decode cX4_status 13 = .ok (.invokevirtual 53, 3) := by decide +kernel
theorem dX4_status_16 : decode cX4_status 16 = .ok (.ireturn, 1) := by decide +kernel
theorem dX4_status_17 : decode cX4_status 17 = .ok (.iload_n 1, 1) := by decide +kernel
theorem dX4_status_18 : decode cX4_status 18 = .ok (.ifCond .lt 10, 3) := by decide +kernel
theorem dX4_status_21 : decode cX4_status 21 = .ok (.aload_n 0, 1) := by decide +kernel
theorem dX4_status_22 : decode cX4_status 22 = .ok (.getfield 36, 3) := by decide +kernel
theorem dX4_status_25 : decode cX4_status 25 = .ok (.iload_n 1, 1) := by decide +kernel
theorem dX4_status_26 : decode cX4_status 26 = .ok (.iaload, 1) := by decide +kernel
theorem dX4_status_27 : decode cX4_status 27 = .ok (.ireturn, 1) := by decide +kernel
theorem dX4_status_28 : decode cX4_status 28 = .ok (.iconst 0, 1) := by decide +kernel
theorem dX4_status_29 : decode cX4_status 29 = .ok (.istore_n 2, 1) := by decide +kernel
theorem dX4_status_30 : decode cX4_status 30 = .ok (.iconst 0, 1) := by decide +kernel
theorem dX4_status_31 : decode cX4_status 31 = .ok (.istore_n 3, 1) := by decide +kernel
theorem dX4_status_32 : decode cX4_status 32 = .ok (.iload_n 3, 1) := by decide +kernel
theorem dX4_status_33 : decode cX4_status 33 = .ok (.bipush 7, 2) := by decide +kernel
theorem dX4_status_35 : decode cX4_status 35 = .ok (.if_icmp .ge 18, 3) := by decide +kernel
theorem dX4_status_38 : decode cX4_status 38 = .ok (.iload_n 2, 1) := by decide +kernel
theorem dX4_status_39 : decode cX4_status 39 = .ok (.aload_n 0, 1) := by decide +kernel
theorem dX4_status_40 : decode cX4_status 40 = .ok (.getfield 36, 3) := by decide +kernel
theorem dX4_status_43 : decode cX4_status 43 = .ok (.iload_n 3, 1) := by decide +kernel
theorem dX4_status_44 : decode cX4_status 44 = .ok (.iaload, 1) := by decide +kernel
theorem dX4_status_45 : decode cX4_status 45 = .ok (.iadd, 1) := by decide +kernel
theorem dX4_status_46 : decode cX4_status 46 = .ok (.istore_n 2, 1) := by decide +kernel
theorem dX4_status_47 : decode cX4_status 47 = .ok (.iinc 3 1, 3) := by decide +kernel
theorem dX4_status_50 : decode cX4_status 50 = .ok (.goto (-18), 3) := by decide +kernel
theorem dX4_status_53 : decode cX4_status 53 = .ok (.iload_n 2, 1) := by decide +kernel
theorem dX4_status_54 : decode cX4_status 54 = .ok (.ireturn, 1) := by decide +kernel
set_option maxRecDepth 20000 in
theorem ggX4_found_X4_isWithin : GoodIn wsX4_found wsX4_isWithin := goodIn_r _ [6] (by decide +kernel) (by decide +kernel)
set_option maxRecDepth 20000 in
theorem gX4_found_X4_isWithin : GoodIn wsX4_found (va_wsS RX4 48 yX4_isWithin wsX4_isWithin) := goodIn_app (goodIn_of _ (by decide +kernel)) ggX4_found_X4_isWithin
theorem dX4_found_0 : decode cX4_found 0 = .ok (.ldc 52, 2) := by decide +kernel
theorem dX4_found_2 : decode cX4_found 2 = .ok (.iload_n 1, 1) := by decide +kernel
theorem dX4_found_3 : decode cX4_found 3 = .ok (.isub, 1) := by decide +kernel
theorem dX4_found_4 : decode cX4_found 4 = .ok (.istore_n 2, 1) := by decide +kernel
theorem dX4_found_5 : decode cX4_found 5 = .ok (.iload_n 2, 1) := by decide +kernel
theorem dX4_found_6 : decode cX4_found 6 = .ok (.iconst 0, 1) := by decide +kernel
theorem dX4_found_7 : decode cX4_found 7 = .ok (.bipush 6, 2) := by decide +kernel
theorem dX4_found_9 : decode cX4_found 9 = .ok (.invokestatic 48, 3) := by decide +kernel
theorem dX4_found_12 : decode cX4_found 12 = .ok (.ifCond .eq 13, 3) := by decide +kernel
theorem dX4_found_15 : decode cX4_found 15 = .ok (.aload_n 0, 1) := by decide +kernel
theorem dX4_found_16 : decode cX4_found 16 = .ok (.getfield 36, 3) := by decide +kernel
theorem dX4_found_19 : decode cX4_found 19 = .ok (.iload_n 2, 1) := by decide +kernel
theorem dX4_found_20 : decode cX4_found 20 = .ok (.dup2, 1) := by decide +kernel
theorem dX4_found_21 : decode cX4_found 21 = .ok (.iaload, 1) := by decide +kernel
theorem dX4_found_22 : decode cX4_found 22 = .ok (.iconst 1, 1) := by decide +kernel
theorem dX4_found_23 : decode cX4_found 23 = .ok (.iadd, 1) := by decide +kernel
theorem dX4_found_24 : decode cX4_found 24 = .ok (.iastore, 1) := by decide +kernel
theorem dX4_found_25 : decode cX4_found 25 = .ok (.iload_n 1, 1) := by decide +kernel
theorem dX4_found_26 : decode cX4_found 26 = .ok (.ireturn, 1) := by decide +kernel
set_option maxRecDepth 20000 in
theorem ggX4_isThere_X4_isWithin : GoodIn wsX4_isThere wsX4_isWithin := goodIn_r _ [6] (by decide +kernel) (by decide +kernel)
set_option maxRecDepth 20000 in
theorem gX4_isThere_X4_isWithin : GoodIn wsX4_isThere (va_wsS RX4 48 yX4_isWithin wsX4_isWithin) := goodIn_app (goodIn_of _ (by decide +kernel)) ggX4_isThere_X4_isWithin
theorem dX4_isThere_0 : decode cX4_isThere 0 = .ok (.iload_n 1, 1) := by decide +kernel
theorem dX4_isThere_1 : decode cX4_isThere 1 = .ok (.iconst 0, 1) := by decide +kernel
theorem dX4_isThere_2 : decode cX4_isThere 2 = .ok (.aload_n 0, 1) := by decide +kernel
theorem dX4_isThere_3 : decode cX4_isThere 3 = .ok (.getfield 12, 3) := by decide +kernel
theorem dX4_isThere_6 : decode cX4_isThere 6 = .ok (.getfield 165, 3) := by decide +kernel
theorem dX4_isThere_9 : decode cX4_isThere 9 = .ok (.iconst 1, 1) := by decide +kernel
theorem dX4_isThere_10 : decode cX4_isThere 10 = .ok (.isub, 1) := by decide +kernel
theorem dX4_isThere_11 : decode cX4_isThere 11 = .ok (.invokestatic 48, 3) := by decide +kernel
theorem dX4_isThere_14 : decode cX4_isThere 14 = .ok (.ireturn, 1) := by decide +kernel
set_option maxRecDepth 20000 in
theorem ggX4_richestWith_X4_isThere : GoodIn wsX4_richestWith wsX4_isThere := goodIn_r _ [9, 2, 10, 11, 12, 8, 13, 87, 88, 89, 90, 91, 92, 93, 94, 95, 96, 97, 98, 99, 100, 101, 102, 103, 104, 105, 106] (by decide +kernel) (by decide +kernel)
set_option maxRecDepth 20000 in
theorem gX4_richestWith_X4_isThere : GoodIn wsX4_richestWith (wsV RX4 77 RX4 yX4_isThere wsX4_isThere) := goodIn_app (goodIn_of _ (by decide +kernel)) ggX4_richestWith_X4_isThere
set_option maxRecDepth 20000 in
theorem ggX4_richestWith_X4_isWithin : GoodIn wsX4_richestWith wsX4_isWithin := goodIn_r _ [13] (by decide +kernel) (by decide +kernel)
set_option maxRecDepth 20000 in
theorem gX4_richestWith_X4_isWithin : GoodIn wsX4_richestWith (va_wsS RX4 48 yX4_isWithin wsX4_isWithin) := goodIn_app (goodIn_of _ (by decide +kernel)) ggX4_richestWith_X4_isWithin
set_option maxRecDepth 20000 in
theorem ggX4_richestWith_X4_found : GoodIn wsX4_richestWith wsX4_found := goodIn_r _ [17, 1, 18, 11, 12, 8, 13, 87, 88, 89, 90, 91, 92, 93] (by decide +kernel) (by decide +kernel)
set_option maxRecDepth 20000 in
theorem gX4_richestWith_X4_found : GoodIn wsX4_richestWith (wsV RX4 53 RX4 yX4_found wsX4_found) := goodIn_app (goodIn_of _ (by decide +kernel)) ggX4_richestWith_X4_found
set_option maxRecDepth 20000 in
theorem ggX4_richestWith_X3_mayBecome : GoodIn wsX4_richestWith wsX3_mayBecome := goodIn_r _ [23, 24, 25, 26, 8, 27, 11, 12, 13, 28, 29, 94, 95, 96, 97, 98, 99, 100, 101, 102, 103, 104, 105, 106] (by decide +kernel) (by decide +kernel)
set_option maxRecDepth 20000 in
theorem gX4_richestWith_X3_mayBecome : GoodIn wsX4_richestWith (wsV RX4 92 RX3 yX3_mayBecome wsX3_mayBecome) := goodIn_app (goodIn_of _ (by decide +kernel)) ggX4_richestWith_X3_mayBecome
set_option maxRecDepth 20000 in
theorem ggX4_richestWith_X3_become : GoodIn wsX4_richestWith wsX3_become := goodIn_r _ [33, 34, 35, 36, 37, 38, 39, 40, 41, 42, 43, 44, 24, 45, 46, 94, 95, 96, 97, 98, 99, 100, 101, 102, 103, 104, 105, 106] (by decide +kernel) (by decide +kernel)
set_option maxRecDepth 20000 in
theorem gX4_richestWith_X3_become : GoodIn wsX4_richestWith (wsV RX4 136 RX3 yX3_become wsX3_become) := goodIn_app (goodIn_of _ (by decide +kernel)) ggX4_richestWith_X3_become
set_option maxRecDepth 20000 in
theorem ggX4_richestWith_X3_setTrait : GoodIn wsX4_richestWith wsX3_setTrait := goodIn_r _ [50, 39, 40, 41, 42, 43, 94, 95, 96, 97, 98, 99, 100, 101, 102, 103, 104, 105, 106] (by decide +kernel) (by decide +kernel)
set_option maxRecDepth 20000 in
theorem gX4_richestWith_X3_setTrait : GoodIn wsX4_richestWith (wsV RX4 95 RX3 yX3_setTrait wsX3_setTrait) := goodIn_app (goodIn_of _ (by decide +kernel)) ggX4_richestWith_X3_setTrait
set_option maxRecDepth 20000 in
theorem ggX4_richestWith_X3_passTuesdays : GoodIn wsX4_richestWith wsX3_passTuesdays := goodIn_r _ [54, 24, 43, 25, 55, 56, 57, 58, 39, 40, 59, 45, 60, 61, 62, 22, 63, 64, 65, 66, 67, 68, 69, 28, 8, 29, 70, 71, 72, 73, 41, 74, 75, 76, 77, 78, 79, 80, 34, 42, 81, 82, 83, 84, 85, 86, 94, 95, 96, 97, 98, 99, 100, 101, 102, 103, 104, 105, 106] (by decide +kernel) (by decide +kernel)
set_option maxRecDepth 20000 in
theorem gX4_richestWith_X3_passTuesdays : GoodIn wsX4_richestWith (wsV RX4 116 RX3 yX3_passTuesdays wsX3_passTuesdays) := goodIn_app (goodIn_of _ (by decide +kernel)) ggX4_richestWith_X3_passTuesdays
theorem dX4_richestWith_0 : decode cX4_richestWith 0 = .ok (.aload_n 0, 1) := by decide +kernel
theorem dX4_richestWith_1 : decode cX4_richestWith 1 = .ok (.iload_n 1, 1) := by decide +kernel
theorem dX4_richestWith_2 : decode cX4_richestWith 2 = .ok (.invokevirtual 77, 3) := by decide +kernel
theorem dX4_richestWith_5 : decode cX4_richestWith 5 = .ok (.ifCond .eq 13, 3) := by decide +kernel
theorem dX4_richestWith_8 : decode cX4_richestWith 8 = .ok (.iload_n 2, 1) := by decide +kernel
theorem dX4_richestWith_9 : decode cX4_richestWith 9 = .ok (.iconst 0, 1) := by decide +kernel
theorem dX4_richestWith_10 : decode cX4_richestWith 10 = .ok (.bipush 60, 2) := by decide +kernel
theorem dX4_richestWith_12 : decode cX4_richestWith 12 = .ok (.invokestatic 48, 3) := by decide +kernel
theorem dX4_richestWith_15 : decode cX4_richestWith 15 = .ok (.ifCond .ne 10, 3) := by decide +kernel
theorem dX4_richestWith_18 : decode cX4_richestWith 18 = .ok (.aload_n 0, 1) := by decide +kernel
theorem dX4_richestWith_19 : decode cX4_richestWith 19 = .ok (.ldc 52, 2) := by decide +kernel
theorem dX4_richestWith_21 : decode cX4_richestWith 21 = .ok (.invokevirtual 53, 3) := by decide +kernel
theorem dX4_richestWith_24 : decode cX4_richestWith 24 = .ok (.ireturn, 1) := by decide +kernel
theorem dX4_richestWith_25 : decode cX4_richestWith 25 = .ok (.iconst (-1), 1) := by decide +kernel
theorem dX4_richestWith_26 : decode cX4_richestWith 26 = .ok (.istore 4, 2) := by decide +kernel
theorem dX4_richestWith_28 : decode cX4_richestWith 28 = .ok (.iconst (-1), 1) := by decide +kernel
theorem dX4_richestWith_29 : decode cX4_richestWith 29 = .ok (.istore 5, 2) := by decide +kernel
theorem dX4_richestWith_31 : decode cX4_richestWith 31 = .ok (.iconst (-1), 1) := by decide +kernel
theorem dX4_richestWith_32 : decode cX4_richestWith 32 = .ok (.istore 6, 2) := by decide +kernel
theorem dX4_richestWith_34 : decode cX4_richestWith 34 = .ok (.iload 6, 2) := by decide +kernel
theorem dX4_richestWith_36 : decode cX4_richestWith 36 = .ok (.bipush 8, 2) := by decide +kernel
theorem dX4_richestWith_38 : decode cX4_richestWith 38 = .ok (.if_icmp .ge 85, 3) := by decide +kernel
theorem dX4_richestWith_41 : decode cX4_richestWith 41 = .ok (.aload_n 0, 1) := by decide +kernel
theorem dX4_richestWith_42 : decode cX4_richestWith 42 = .ok (.getfield 12, 3) := by decide +kernel
theorem dX4_richestWith_45 : decode cX4_richestWith 45 = .ok (.iload_n 1, 1) := by decide +kernel
theorem dX4_richestWith_46 : decode cX4_richestWith 46 = .ok (.iload_n 3, 1) := by decide +kernel
theorem dX4_richestWith_47 : decode cX4_richestWith 47 = .ok (.iload 6, 2) := by decide +kernel
theorem dX4_richestWith_49 : decode cX4_richestWith 49 = .ok (.invokevirtual 92, 3) := by decide +kernel
theorem dX4_richestWith_52 : decode cX4_richestWith 52 = .ok (.ifCond .ne 6, 3) := by decide +kernel
theorem dX4_richestWith_55 : decode cX4_richestWith 55 = .ok (.goto 62, 3) := by decide +kernel
theorem dX4_richestWith_58 : decode cX4_richestWith 58 = .ok (.aload_n 0, 1) := by decide +kernel
theorem dX4_richestWith_59 : decode cX4_richestWith 59 = .ok (.getfield 19, 3) := by decide +kernel
theorem dX4_richestWith_62 : decode cX4_richestWith 62 = .ok (.aload_n 0, 1) := by decide +kernel
theorem dX4_richestWith_63 : decode cX4_richestWith 63 = .ok (.getfield 12, 3) := by decide +kernel
theorem dX4_richestWith_66 : decode cX4_richestWith 66 = .ok (.invokevirtual 136, 3) := by decide +kernel
theorem dX4_richestWith_69 : decode cX4_richestWith 69 = .ok (.aload_n 0, 1) := by decide +kernel
theorem dX4_richestWith_70 : decode cX4_richestWith 70 = .ok (.getfield 19, 3) := by decide +kernel
theorem dX4_richestWith_73 : decode cX4_richestWith 73 = .ok (.iload_n 1, 1) := by decide +kernel
theorem dX4_richestWith_74 : decode cX4_richestWith 74 = .ok (.iload_n 3, 1) := by decide +kernel
theorem dX4_richestWith_75 : decode cX4_richestWith 75 = .ok (.iload 6, 2) := by decide +kernel
theorem dX4_richestWith_77 : decode cX4_richestWith 77 = .ok (.invokevirtual 95, 3) := by decide +kernel
theorem dX4_richestWith_80 : decode cX4_richestWith 80 = .ok (.aload_n 0, 1) := by decide +kernel
theorem dX4_richestWith_81 : decode cX4_richestWith 81 = .ok (.getfield 19, 3) := by decide +kernel
theorem dX4_richestWith_84 : decode cX4_richestWith 84 = .ok (.iload_n 2, 1) := by decide +kernel
theorem dX4_richestWith_85 : decode cX4_richestWith 85 = .ok (.invokevirtual 116, 3) := by decide +kernel
theorem dX4_richestWith_88 : decode cX4_richestWith 88 = .ok (.aload_n 0, 1) := by decide +kernel
theorem dX4_richestWith_89 : decode cX4_richestWith 89 = .ok (.getfield 19, 3) := by decide +kernel
theorem dX4_richestWith_92 : decode cX4_richestWith 92 = .ok (.getfield 140, 3) := by decide +kernel
theorem dX4_richestWith_95 : decode cX4_richestWith 95 = .ok (.iload_n 1, 1) := by decide +kernel
theorem dX4_richestWith_96 : decode cX4_richestWith 96 = .ok (.iaload, 1) := by decide +kernel
theorem dX4_richestWith_97 : decode cX4_richestWith 97 = .ok (.iload 5, 2) := by decide +kernel
theorem dX4_richestWith_99 : decode cX4_richestWith 99 = .ok (.if_icmp .le 18, 3) := by decide +kernel
theorem dX4_richestWith_102 : decode cX4_richestWith 102 = .ok (.iload 6, 2) := by decide +kernel
theorem dX4_richestWith_104 : decode cX4_richestWith 104 = .ok (.istore 4, 2) := by decide +kernel
theorem dX4_richestWith_106 : decode cX4_richestWith 106 = .ok (.aload_n 0, 1) := by decide +kernel
theorem dX4_richestWith_107 : decode cX4_richestWith 107 = .ok (.getfield 19, 3) := by decide +kernel
theorem dX4_richestWith_110 : decode cX4_richestWith 110 = .ok (.getfield 140, 3) := by decide +kernel
theorem dX4_richestWith_113 : decode cX4_richestWith 113 = .ok (.iload_n 1, 1) := by decide +kernel
theorem dX4_richestWith_114 : decode cX4_richestWith 114 = .ok (.iaload, 1) := by decide +kernel
theorem dX4_richestWith_115 : decode cX4_richestWith 115 = .ok (.istore 5, 2) := by decide +kernel
theorem dX4_richestWith_117 : decode cX4_richestWith 117 = .ok (.iinc 6 1, 3) := by decide +kernel
theorem dX4_richestWith_120 : decode cX4_richestWith 120 = .ok (.goto (-86), 3) := by decide +kernel
theorem dX4_richestWith_123 : decode cX4_richestWith 123 = .ok (.iload 4, 2) := by decide +kernel
theorem dX4_richestWith_125 : decode cX4_richestWith 125 = .ok (.ireturn, 1) := by decide +kernel
set_option maxRecDepth 20000 in
theorem ggX4_comersIfTold_X3_become : GoodIn wsX4_comersIfTold wsX3_become := goodIn_r _ [10, 11, 12, 13, 14, 15, 16, 17, 18, 19, 20, 21, 22, 23, 24, 61, 62, 63, 64, 65, 66, 67, 68, 69, 70, 71, 72, 73] (by decide +kernel) (by decide +kernel)
set_option maxRecDepth 20000 in
theorem gX4_comersIfTold_X3_become : GoodIn wsX4_comersIfTold (wsV RX4 136 RX3 yX3_become wsX3_become) := goodIn_app (goodIn_of _ (by decide +kernel)) ggX4_comersIfTold_X3_become
set_option maxRecDepth 20000 in
theorem ggX4_comersIfTold_X3_settle : GoodIn wsX4_comersIfTold wsX3_settle := goodIn_r _ [28, 29, 30, 22, 17, 31, 32, 33, 34, 35, 36, 37, 38, 39, 40, 41, 9, 42, 18, 43, 44, 45, 46, 47, 48, 49, 50, 51, 52, 53, 11, 19, 16, 61, 62, 63, 64, 65, 66, 67, 68, 69, 70, 71, 72, 73] (by decide +kernel) (by decide +kernel)
set_option maxRecDepth 20000 in
theorem gX4_comersIfTold_X3_settle : GoodIn wsX4_comersIfTold (wsV RX4 60 RX3 yX3_settle wsX3_settle) := goodIn_app (goodIn_of _ (by decide +kernel)) ggX4_comersIfTold_X3_settle
theorem dX4_comersIfTold_0 : decode cX4_comersIfTold 0 = .ok (.aload_n 0, 1) := by decide +kernel
theorem dX4_comersIfTold_1 : decode cX4_comersIfTold 1 = .ok (.getfield 19, 3) := by decide +kernel
theorem dX4_comersIfTold_4 : decode cX4_comersIfTold 4 = .ok (.aload_n 0, 1) := by decide +kernel
theorem dX4_comersIfTold_5 : decode cX4_comersIfTold 5 = .ok (.getfield 12, 3) := by decide +kernel
theorem dX4_comersIfTold_8 : decode cX4_comersIfTold 8 = .ok (.invokevirtual 136, 3) := by decide +kernel
theorem dX4_comersIfTold_11 : decode cX4_comersIfTold 11 = .ok (.iconst 0, 1) := by decide +kernel
theorem dX4_comersIfTold_12 : decode cX4_comersIfTold 12 = .ok (.istore_n 3, 1) := by decide +kernel
theorem dX4_comersIfTold_13 : decode cX4_comersIfTold 13 = .ok (.iload_n 3, 1) := by decide +kernel
theorem dX4_comersIfTold_14 : decode cX4_comersIfTold 14 = .ok (.aload_n 0, 1) := by decide +kernel
theorem dX4_comersIfTold_15 : decode cX4_comersIfTold 15 = .ok (.getfield 19, 3) := by decide +kernel
theorem dX4_comersIfTold_18 : decode cX4_comersIfTold 18 = .ok (.getfield 165, 3) := by decide +kernel
theorem dX4_comersIfTold_21 : decode cX4_comersIfTold 21 = .ok (.if_icmp .ge 28, 3) := by decide +kernel
theorem dX4_comersIfTold_24 : decode cX4_comersIfTold 24 = .ok (.iload_n 1, 1) := by decide +kernel
theorem dX4_comersIfTold_25 : decode cX4_comersIfTold 25 = .ok (.iload_n 3, 1) := by decide +kernel
theorem dX4_comersIfTold_26 : decode cX4_comersIfTold 26 = .ok (.ishr, 1) := by decide +kernel
theorem dX4_comersIfTold_27 : decode cX4_comersIfTold 27 = .ok (.iconst 1, 1) := by decide +kernel
theorem dX4_comersIfTold_28 : decode cX4_comersIfTold 28 = .ok (.iand, 1) := by decide +kernel
theorem dX4_comersIfTold_29 : decode cX4_comersIfTold 29 = .ok (.iconst 1, 1) := by decide +kernel
theorem dX4_comersIfTold_30 : decode cX4_comersIfTold 30 = .ok (.if_icmp .ne 13, 3) := by decide +kernel
theorem dX4_comersIfTold_33 : decode cX4_comersIfTold 33 = .ok (.aload_n 0, 1) := by decide +kernel
theorem dX4_comersIfTold_34 : decode cX4_comersIfTold 34 = .ok (.getfield 19, 3) := by decide +kernel
theorem dX4_comersIfTold_37 : decode cX4_comersIfTold 37 = .ok (.getfield 143, 3) := by decide +kernel
theorem dX4_comersIfTold_40 : decode cX4_comersIfTold 40 = .ok (.iload_n 3, 1) := by decide +kernel
theorem dX4_comersIfTold_41 : decode cX4_comersIfTold 41 = .ok (.iload_n 2, 1) := by decide +kernel
theorem dX4_comersIfTold_42 : decode cX4_comersIfTold 42 = .ok (.iastore, 1) := by decide +kernel
theorem dX4_comersIfTold_43 : decode cX4_comersIfTold 43 = .ok (.iinc 3 1, 3) := by decide +kernel
theorem dX4_comersIfTold_46 : decode cX4_comersIfTold 46 = .ok (.goto (-33), 3) := by decide +kernel
theorem dX4_comersIfTold_49 : decode cX4_comersIfTold 49 = .ok (.aload_n 0, 1) := by decide +kernel
theorem dX4_comersIfTold_50 : decode cX4_comersIfTold 50 = .ok (.getfield 19, 3) := by decide +kernel
theorem dX4_comersIfTold_53 : decode cX4_comersIfTold 53 = .ok (.invokevirtual 60, 3) := by decide +kernel
theorem dX4_comersIfTold_56 : decode cX4_comersIfTold 56 = .ok (.aload_n 0, 1) := by decide +kernel
theorem dX4_comersIfTold_57 : decode cX4_comersIfTold 57 = .ok (.getfield 19, 3) := by decide +kernel
theorem dX4_comersIfTold_60 : decode cX4_comersIfTold 60 = .ok (.getfield 150, 3) := by decide +kernel
theorem dX4_comersIfTold_63 : decode cX4_comersIfTold 63 = .ok (.iload_n 2, 1) := by decide +kernel
theorem dX4_comersIfTold_64 : decode cX4_comersIfTold 64 = .ok (.iaload, 1) := by decide +kernel
theorem dX4_comersIfTold_65 : decode cX4_comersIfTold 65 = .ok (.ireturn, 1) := by decide +kernel
set_option maxRecDepth 20000 in
theorem ggX4_goodsIfSwapped_X3_become : GoodIn wsX4_goodsIfSwapped wsX3_become := goodIn_r _ [8, 9, 10, 11, 12, 13, 14, 15, 16, 17, 18, 19, 20, 21, 22, 74, 75, 76, 77, 78, 79, 80, 81, 82, 83, 84, 85, 86] (by decide +kernel) (by decide +kernel)
set_option maxRecDepth 20000 in
theorem gX4_goodsIfSwapped_X3_become : GoodIn wsX4_goodsIfSwapped (wsV RX4 136 RX3 yX3_become wsX3_become) := goodIn_app (goodIn_of _ (by decide +kernel)) ggX4_goodsIfSwapped_X3_become
set_option maxRecDepth 20000 in
theorem ggX4_goodsIfSwapped_X3_passTuesdays : GoodIn wsX4_goodsIfSwapped wsX3_passTuesdays := goodIn_r _ [26, 20, 18, 27, 28, 29, 30, 31, 14, 15, 32, 21, 33, 34, 35, 7, 36, 37, 38, 39, 40, 41, 42, 43, 44, 45, 46, 47, 48, 49, 16, 50, 51, 52, 53, 54, 55, 56, 9, 17, 57, 58, 59, 60, 61, 62, 74, 75, 76, 77, 78, 79, 80, 81, 82, 83, 84, 85, 86] (by decide +kernel) (by decide +kernel)
set_option maxRecDepth 20000 in
theorem gX4_goodsIfSwapped_X3_passTuesdays : GoodIn wsX4_goodsIfSwapped (wsV RX4 116 RX3 yX3_passTuesdays wsX3_passTuesdays) := goodIn_app (goodIn_of _ (by decide +kernel)) ggX4_goodsIfSwapped_X3_passTuesdays
set_option maxRecDepth 20000 in
theorem ggX4_goodsIfSwapped_X3_goodsOfAll : GoodIn wsX4_goodsIfSwapped wsX3_goodsOfAll := goodIn_r _ [66, 20, 18, 74, 75, 76, 77, 78, 79, 80, 81, 82, 83, 84, 85, 86] (by decide +kernel) (by decide +kernel)
set_option maxRecDepth 20000 in
theorem gX4_goodsIfSwapped_X3_goodsOfAll : GoodIn wsX4_goodsIfSwapped (wsV RX4 120 RX3 yX3_goodsOfAll wsX3_goodsOfAll) := goodIn_app (goodIn_of _ (by decide +kernel)) ggX4_goodsIfSwapped_X3_goodsOfAll
theorem dX4_goodsIfSwapped_0 : decode cX4_goodsIfSwapped 0 = .ok (.aload_n 0, 1) := by decide +kernel
theorem dX4_goodsIfSwapped_1 : decode cX4_goodsIfSwapped 1 = .ok (.getfield 19, 3) := by decide +kernel
theorem dX4_goodsIfSwapped_4 : decode cX4_goodsIfSwapped 4 = .ok (.aload_n 0, 1) := by decide +kernel
theorem dX4_goodsIfSwapped_5 : decode cX4_goodsIfSwapped 5 = .ok (.getfield 12, 3) := by decide +kernel
theorem dX4_goodsIfSwapped_8 : decode cX4_goodsIfSwapped 8 = .ok (.invokevirtual 136, 3) := by decide +kernel
theorem dX4_goodsIfSwapped_11 : decode cX4_goodsIfSwapped 11 = .ok (.aload_n 0, 1) := by decide +kernel
theorem dX4_goodsIfSwapped_12 : decode cX4_goodsIfSwapped 12 = .ok (.getfield 19, 3) := by decide +kernel
theorem dX4_goodsIfSwapped_15 : decode cX4_goodsIfSwapped 15 = .ok (.getfield 143, 3) := by decide +kernel
theorem dX4_goodsIfSwapped_18 : decode cX4_goodsIfSwapped 18 = .ok (.iload_n 1, 1) := by decide +kernel
theorem dX4_goodsIfSwapped_19 : decode cX4_goodsIfSwapped 19 = .ok (.aload_n 0, 1) := by decide +kernel
theorem dX4_goodsIfSwapped_20 : decode cX4_goodsIfSwapped 20 = .ok (.getfield 12, 3) := by decide +kernel
theorem dX4_goodsIfSwapped_23 : decode cX4_goodsIfSwapped 23 = .ok (.getfield 143, 3) := by decide +kernel
theorem dX4_goodsIfSwapped_26 : decode cX4_goodsIfSwapped 26 = .ok (.iload_n 2, 1) := by decide +kernel
theorem dX4_goodsIfSwapped_27 : decode cX4_goodsIfSwapped 27 = .ok (.iaload, 1) := by decide +kernel
theorem dX4_goodsIfSwapped_28 : decode cX4_goodsIfSwapped 28 = .ok (.iastore, 1) := by decide +kernel
theorem dX4_goodsIfSwapped_29 : decode cX4_goodsIfSwapped 29 = .ok (.aload_n 0, 1) := by decide +kernel
theorem dX4_goodsIfSwapped_30 : decode cX4_goodsIfSwapped 30 = .ok (.getfield 19, 3) := by decide +kernel
theorem dX4_goodsIfSwapped_33 : decode cX4_goodsIfSwapped 33 = .ok (.getfield 143, 3) := by decide +kernel
theorem dX4_goodsIfSwapped_36 : decode cX4_goodsIfSwapped 36 = .ok (.iload_n 2, 1) := by decide +kernel
theorem dX4_goodsIfSwapped_37 : decode cX4_goodsIfSwapped 37 = .ok (.aload_n 0, 1) := by decide +kernel
theorem dX4_goodsIfSwapped_38 : decode cX4_goodsIfSwapped 38 = .ok (.getfield 12, 3) := by decide +kernel
theorem dX4_goodsIfSwapped_41 : decode cX4_goodsIfSwapped 41 = .ok (.getfield 143, 3) := by decide +kernel
theorem dX4_goodsIfSwapped_44 : decode cX4_goodsIfSwapped 44 = .ok (.iload_n 1, 1) := by decide +kernel
theorem dX4_goodsIfSwapped_45 : decode cX4_goodsIfSwapped 45 = .ok (.iaload, 1) := by decide +kernel
theorem dX4_goodsIfSwapped_46 : decode cX4_goodsIfSwapped 46 = .ok (.iastore, 1) := by decide +kernel
theorem dX4_goodsIfSwapped_47 : decode cX4_goodsIfSwapped 47 = .ok (.aload_n 0, 1) := by decide +kernel
theorem dX4_goodsIfSwapped_48 : decode cX4_goodsIfSwapped 48 = .ok (.getfield 19, 3) := by decide +kernel
theorem dX4_goodsIfSwapped_51 : decode cX4_goodsIfSwapped 51 = .ok (.iload_n 3, 1) := by decide +kernel
theorem dX4_goodsIfSwapped_52 : decode cX4_goodsIfSwapped 52 = .ok (.invokevirtual 116, 3) := by decide +kernel
theorem dX4_goodsIfSwapped_55 : decode cX4_goodsIfSwapped 55 = .ok (.aload_n 0, 1) := by decide +kernel
theorem dX4_goodsIfSwapped_56 : decode cX4_goodsIfSwapped 56 = .ok (.getfield 19, 3) := by decide +kernel
theorem dX4_goodsIfSwapped_59 : decode cX4_goodsIfSwapped 59 = .ok (.invokevirtual 120, 3) := by decide +kernel
theorem dX4_goodsIfSwapped_62 : decode cX4_goodsIfSwapped 62 = .ok (.ireturn, 1) := by decide +kernel
set_option maxRecDepth 20000 in
theorem ggX4_fittingTraits_X4_isSheet : GoodIn wsX4_fittingTraits wsX4_isSheet := goodIn_r _ [8, 9, 10, 7, 11] (by decide +kernel) (by decide +kernel)
set_option maxRecDepth 20000 in
theorem gX4_fittingTraits_X4_isSheet : GoodIn wsX4_fittingTraits (va_wsS RX4 231 yX4_isSheet wsX4_isSheet) := goodIn_app (goodIn_of _ (by decide +kernel)) ggX4_fittingTraits_X4_isSheet
set_option maxRecDepth 20000 in
theorem ggX4_fittingTraits_X4_found : GoodIn wsX4_fittingTraits wsX4_found := goodIn_r _ [15, 1, 16, 9, 10, 7, 11, 104, 105, 106, 107, 108, 109, 110] (by decide +kernel) (by decide +kernel)
set_option maxRecDepth 20000 in
theorem gX4_fittingTraits_X4_found : GoodIn wsX4_fittingTraits (wsV RX4 53 RX4 yX4_found wsX4_found) := goodIn_app (goodIn_of _ (by decide +kernel)) ggX4_fittingTraits_X4_found
set_option maxRecDepth 20000 in
theorem ggX4_fittingTraits_X0_isMissing : GoodIn wsX4_fittingTraits wsX0_isMissing := goodIn_r _ [21, 22, 111, 112, 113] (by decide +kernel) (by decide +kernel)
set_option maxRecDepth 20000 in
theorem gX4_fittingTraits_X0_isMissing : GoodIn wsX4_fittingTraits (wsV RX4 242 RX0 yX0_isMissing wsX0_isMissing) := goodIn_app (goodIn_of _ (by decide +kernel)) ggX4_fittingTraits_X0_isMissing
set_option maxRecDepth 20000 in
theorem ggX4_fittingTraits_X4_isThere : GoodIn wsX4_fittingTraits wsX4_isThere := goodIn_r _ [26, 4, 27, 9, 10, 7, 11, 104, 105, 106, 107, 108, 109, 110, 114, 115, 116, 117, 118, 119, 120, 121, 122, 123, 124, 125, 126] (by decide +kernel) (by decide +kernel)
set_option maxRecDepth 20000 in
theorem gX4_fittingTraits_X4_isThere : GoodIn wsX4_fittingTraits (wsV RX4 77 RX4 yX4_isThere wsX4_isThere) := goodIn_app (goodIn_of _ (by decide +kernel)) ggX4_fittingTraits_X4_isThere
set_option maxRecDepth 20000 in
theorem ggX4_fittingTraits_X3_mayBecome : GoodIn wsX4_fittingTraits wsX3_mayBecome := goodIn_r _ [32, 33, 34, 35, 7, 36, 9, 10, 11, 37, 38, 114, 115, 116, 117, 118, 119, 120, 121, 122, 123, 124, 125, 126] (by decide +kernel) (by decide +kernel)
set_option maxRecDepth 20000 in
theorem gX4_fittingTraits_X3_mayBecome : GoodIn wsX4_fittingTraits (wsV RX4 92 RX3 yX3_mayBecome wsX3_mayBecome) := goodIn_app (goodIn_of _ (by decide +kernel)) ggX4_fittingTraits_X3_mayBecome
set_option maxRecDepth 20000 in
theorem ggX4_fittingTraits_X4_fitsWith : GoodIn wsX4_fittingTraits wsX4_fitsWith := goodIn_r _ [42, 43, 4, 44, 45, 46, 47, 48, 49, 31, 50, 51, 52, 53, 54, 55, 56, 57, 58, 59, 60, 61, 33, 62, 63, 64, 65, 66, 67, 68, 69, 70, 71, 34, 72, 73, 74, 75, 76, 77, 78, 79, 80, 81, 82, 83, 84, 85, 86, 37, 7, 38, 87, 88, 89, 90, 91, 92, 93, 94, 95, 96, 97, 98, 99, 100, 101, 102, 103, 104, 105, 106, 107, 108, 109, 110, 111, 112, 113, 114, 115, 116, 117, 118, 119, 120, 121, 122, 123, 124, 125, 126] (by decide +kernel) (by decide +kernel)
set_option maxRecDepth 20000 in
theorem gX4_fittingTraits_X4_fitsWith : GoodIn wsX4_fittingTraits (wsV RX4 266 RX4 yX4_fitsWith wsX4_fitsWith) := goodIn_app (goodIn_of _ (by decide +kernel)) ggX4_fittingTraits_X4_fitsWith
theorem dX4_fittingTraits_0 : decode cX4_fittingTraits 0 = .ok (.iload_n 1, 1) := by decide +kernel
theorem dX4_fittingTraits_1 : decode cX4_fittingTraits 1 = .ok (.invokestatic 231, 3) := by decide +kernel
theorem dX4_fittingTraits_4 : decode cX4_fittingTraits 4 = .ok (.ifCond .ne 10, 3) := by decide +kernel
theorem dX4_fittingTraits_7 : decode cX4_fittingTraits 7 = .ok (.aload_n 0, 1) := by decide +kernel
theorem dX4_fittingTraits_8 : decode cX4_fittingTraits 8 = .ok (.ldc 52, 2) := by decide +kernel
theorem dX4_fittingTraits_10 : decode cX4_fittingTraits 10 = .ok (.invokevirtual 53, 3) := by decide +kernel
theorem dX4_fittingTraits_13 : decode cX4_fittingTraits 13 = .ok (.ireturn, 1) := by decide +kernel
theorem dX4_fittingTraits_14 : decode cX4_fittingTraits 14 = .ok (.aload_n 0, 1) := by decide +kernel
theorem dX4_fittingTraits_15 : decode cX4_fittingTraits 15 = .ok (.getfield 31, 3) := by decide +kernel
theorem dX4_fittingTraits_18 : decode cX4_fittingTraits 18 = .ok (.iload_n 1, 1) := by decide +kernel
theorem dX4_fittingTraits_19 : decode cX4_fittingTraits 19 = .ok (.aaload, 1) := by decide +kernel
theorem dX4_fittingTraits_20 : decode cX4_fittingTraits 20 = .ok (.invokevirtual 242, 3) := by decide +kernel
theorem dX4_fittingTraits_23 : decode cX4_fittingTraits 23 = .ok (.ifCond .eq 10, 3) := by decide +kernel
theorem dX4_fittingTraits_26 : decode cX4_fittingTraits 26 = .ok (.aload_n 0, 1) := by decide +kernel
theorem dX4_fittingTraits_27 : decode cX4_fittingTraits 27 = .ok (.ldc 223, 2) := by decide +kernel
theorem dX4_fittingTraits_29 : decode cX4_fittingTraits 29 = .ok (.invokevirtual 53, 3) := by decide +kernel
theorem dX4_fittingTraits_32 : decode cX4_fittingTraits 32 = .ok (.ireturn, 1) := by decide +kernel
theorem dX4_fittingTraits_33 : decode cX4_fittingTraits 33 = .ok (.aload_n 0, 1) := by decide +kernel
theorem dX4_fittingTraits_34 : decode cX4_fittingTraits 34 = .ok (.iload_n 2, 1) := by decide +kernel
theorem dX4_fittingTraits_35 : decode cX4_fittingTraits 35 = .ok (.invokevirtual 77, 3) := by decide +kernel
theorem dX4_fittingTraits_38 : decode cX4_fittingTraits 38 = .ok (.ifCond .ne 10, 3) := by decide +kernel
theorem dX4_fittingTraits_41 : decode cX4_fittingTraits 41 = .ok (.aload_n 0, 1) := by decide +kernel
theorem dX4_fittingTraits_42 : decode cX4_fittingTraits 42 = .ok (.ldc 52, 2) := by decide +kernel
theorem dX4_fittingTraits_44 : decode cX4_fittingTraits 44 = .ok (.invokevirtual 53, 3) := by decide +kernel
theorem dX4_fittingTraits_47 : decode cX4_fittingTraits 47 = .ok (.ireturn, 1) := by decide +kernel
theorem dX4_fittingTraits_48 : decode cX4_fittingTraits 48 = .ok (.iconst 0, 1) := by decide +kernel
theorem dX4_fittingTraits_49 : decode cX4_fittingTraits 49 = .ok (.istore 4, 2) := by decide +kernel
theorem dX4_fittingTraits_51 : decode cX4_fittingTraits 51 = .ok (.iconst 0, 1) := by decide +kernel
theorem dX4_fittingTraits_52 : decode cX4_fittingTraits 52 = .ok (.istore 5, 2) := by decide +kernel
theorem dX4_fittingTraits_54 : decode cX4_fittingTraits 54 = .ok (.iload 5, 2) := by decide +kernel
theorem dX4_fittingTraits_56 : decode cX4_fittingTraits 56 = .ok (.bipush 8, 2) := by decide +kernel
theorem dX4_fittingTraits_58 : decode cX4_fittingTraits 58 = .ok (.if_icmp .ge 49, 3) := by decide +kernel
theorem dX4_fittingTraits_61 : decode cX4_fittingTraits 61 = .ok (.aload_n 0, 1) := by decide +kernel
theorem dX4_fittingTraits_62 : decode cX4_fittingTraits 62 = .ok (.getfield 12, 3) := by decide +kernel
theorem dX4_fittingTraits_65 : decode cX4_fittingTraits 65 = .ok (.iload_n 2, 1) := by decide +kernel
theorem dX4_fittingTraits_66 : decode cX4_fittingTraits 66 = .ok (.iload_n 3, 1) := by decide +kernel
theorem dX4_fittingTraits_67 : decode cX4_fittingTraits 67 = .ok (.iload 5, 2) := by decide +kernel
theorem dX4_fittingTraits_69 : decode cX4_fittingTraits 69 = .ok (.invokevirtual 92, 3) := by decide +kernel
theorem dX4_fittingTraits_72 : decode cX4_fittingTraits 72 = .ok (.ifCond .eq 29, 3) := by decide +kernel
theorem dX4_fittingTraits_75 : decode cX4_fittingTraits 75 = .ok (.aload_n 0, 1) := by decide +kernel
theorem dX4_fittingTraits_76 : decode cX4_fittingTraits 76 = .ok (.aload_n 0, 1) := by decide +kernel
theorem dX4_fittingTraits_77 : decode cX4_fittingTraits 77 = .ok (.getfield 31, 3) := by decide +kernel
theorem dX4_fittingTraits_80 : decode cX4_fittingTraits 80 = .ok (.iload_n 1, 1) := by decide +kernel
theorem dX4_fittingTraits_81 : decode cX4_fittingTraits 81 = .ok (.aaload, 1) := by decide +kernel
theorem dX4_fittingTraits_82 : decode cX4_fittingTraits 82 = .ok (.iload_n 2, 1) := by decide +kernel
theorem dX4_fittingTraits_83 : decode cX4_fittingTraits 83 = .ok (.iload_n 3, 1) := by decide +kernel
theorem dX4_fittingTraits_84 : decode cX4_fittingTraits 84 = .ok (.iload 5, 2) := by decide +kernel
theorem dX4_fittingTraits_86 : decode cX4_fittingTraits 86 = .ok (.invokevirtual 266, 3) := by decide +kernel
theorem dX4_fittingTraits_89 : decode cX4_fittingTraits 89 = .ok (.ifCond .eq 12, 3) := by decide +kernel
theorem dX4_fittingTraits_92 : decode cX4_fittingTraits 92 = .ok (.iload 4, 2) := by decide +kernel
theorem dX4_fittingTraits_94 : decode cX4_fittingTraits 94 = .ok (.iconst 1, 1) := by decide +kernel
theorem dX4_fittingTraits_95 : decode cX4_fittingTraits 95 = .ok (.iload 5, 2) := by decide +kernel
theorem dX4_fittingTraits_97 : decode cX4_fittingTraits 97 = .ok (.ishl, 1) := by decide +kernel
theorem dX4_fittingTraits_98 : decode cX4_fittingTraits 98 = .ok (.ior, 1) := by decide +kernel
theorem dX4_fittingTraits_99 : decode cX4_fittingTraits 99 = .ok (.istore 4, 2) := by decide +kernel
theorem dX4_fittingTraits_101 : decode cX4_fittingTraits 101 = .ok (.iinc 5 1, 3) := by decide +kernel
theorem dX4_fittingTraits_104 : decode cX4_fittingTraits 104 = .ok (.goto (-50), 3) := by decide +kernel
theorem dX4_fittingTraits_107 : decode cX4_fittingTraits 107 = .ok (.iload 4, 2) := by decide +kernel
theorem dX4_fittingTraits_109 : decode cX4_fittingTraits 109 = .ok (.ireturn, 1) := by decide +kernel
set_option maxRecDepth 20000 in
theorem ggX4_fitsWith_X3_become : GoodIn wsX4_fitsWith wsX3_become := goodIn_r _ [10, 11, 12, 13, 14, 15, 16, 17, 18, 19, 20, 21, 22, 23, 24, 79, 80, 81, 82, 83, 84, 85, 86, 87, 88, 89, 90, 91] (by decide +kernel) (by decide +kernel)
set_option maxRecDepth 20000 in
theorem gX4_fitsWith_X3_become : GoodIn wsX4_fitsWith (wsV RX4 136 RX3 yX3_become wsX3_become) := goodIn_app (goodIn_of _ (by decide +kernel)) ggX4_fitsWith_X3_become
set_option maxRecDepth 20000 in
theorem ggX4_fitsWith_X3_setTrait : GoodIn wsX4_fitsWith wsX3_setTrait := goodIn_r _ [28, 16, 17, 18, 19, 20, 79, 80, 81, 82, 83, 84, 85, 86, 87, 88, 89, 90, 91] (by decide +kernel) (by decide +kernel)
set_option maxRecDepth 20000 in
theorem gX4_fitsWith_X3_setTrait : GoodIn wsX4_fitsWith (wsV RX4 95 RX3 yX3_setTrait wsX3_setTrait) := goodIn_app (goodIn_of _ (by decide +kernel)) ggX4_fitsWith_X3_setTrait
set_option maxRecDepth 20000 in
theorem ggX4_fitsWith_X3_passTuesdays : GoodIn wsX4_fitsWith wsX3_passTuesdays := goodIn_r _ [32, 22, 20, 33, 34, 35, 36, 37, 16, 17, 38, 23, 39, 40, 41, 9, 42, 43, 44, 45, 46, 47, 48, 49, 50, 51, 52, 53, 54, 55, 18, 56, 57, 58, 59, 60, 61, 62, 11, 19, 63, 64, 65, 66, 67, 68, 79, 80, 81, 82, 83, 84, 85, 86, 87, 88, 89, 90, 91] (by decide +kernel) (by decide +kernel)
set_option maxRecDepth 20000 in
theorem gX4_fitsWith_X3_passTuesdays : GoodIn wsX4_fitsWith (wsV RX4 116 RX3 yX3_passTuesdays wsX3_passTuesdays) := goodIn_app (goodIn_of _ (by decide +kernel)) ggX4_fitsWith_X3_passTuesdays
theorem dX4_fitsWith_0 : decode cX4_fitsWith 0 = .ok (.aload_n 0, 1) := by decide +kernel
theorem dX4_fitsWith_1 : decode cX4_fitsWith 1 = .ok (.getfield 19, 3) := by decide +kernel
theorem dX4_fitsWith_4 : decode cX4_fitsWith 4 = .ok (.aload_n 0, 1) := by decide +kernel
theorem dX4_fitsWith_5 : decode cX4_fitsWith 5 = .ok (.getfield 12, 3) := by decide +kernel
theorem dX4_fitsWith_8 : decode cX4_fitsWith 8 = .ok (.invokevirtual 136, 3) := by decide +kernel
theorem dX4_fitsWith_11 : decode cX4_fitsWith 11 = .ok (.aload_n 0, 1) := by decide +kernel
theorem dX4_fitsWith_12 : decode cX4_fitsWith 12 = .ok (.getfield 19, 3) := by decide +kernel
theorem dX4_fitsWith_15 : decode cX4_fitsWith 15 = .ok (.iload_n 2, 1) := by decide +kernel
theorem dX4_fitsWith_16 : decode cX4_fitsWith 16 = .ok (.iload_n 3, 1) := by decide +kernel
theorem dX4_fitsWith_17 : decode cX4_fitsWith 17 = .ok (.iload 4, 2) := by decide +kernel
theorem dX4_fitsWith_19 : decode cX4_fitsWith 19 = .ok (.invokevirtual 95, 3) := by decide +kernel
theorem dX4_fitsWith_22 : decode cX4_fitsWith 22 = .ok (.iconst 0, 1) := by decide +kernel
theorem dX4_fitsWith_23 : decode cX4_fitsWith 23 = .ok (.istore 5, 2) := by decide +kernel
theorem dX4_fitsWith_25 : decode cX4_fitsWith 25 = .ok (.iload 5, 2) := by decide +kernel
theorem dX4_fitsWith_27 : decode cX4_fitsWith 27 = .ok (.aload_n 1, 1) := by decide +kernel
theorem dX4_fitsWith_28 : decode cX4_fitsWith 28 = .ok (.getfield 239, 3) := by decide +kernel
theorem dX4_fitsWith_31 : decode cX4_fitsWith 31 = .ok (.if_icmp .ge 48, 3) := by decide +kernel
theorem dX4_fitsWith_34 : decode cX4_fitsWith 34 = .ok (.aload_n 1, 1) := by decide +kernel
theorem dX4_fitsWith_35 : decode cX4_fitsWith 35 = .ok (.getfield 254, 3) := by decide +kernel
theorem dX4_fitsWith_38 : decode cX4_fitsWith 38 = .ok (.iload 5, 2) := by decide +kernel
theorem dX4_fitsWith_40 : decode cX4_fitsWith 40 = .ok (.iaload, 1) := by decide +kernel
theorem dX4_fitsWith_41 : decode cX4_fitsWith 41 = .ok (.istore 6, 2) := by decide +kernel
theorem dX4_fitsWith_43 : decode cX4_fitsWith 43 = .ok (.iload 6, 2) := by decide +kernel
theorem dX4_fitsWith_45 : decode cX4_fitsWith 45 = .ok (.iconst (-1), 1) := by decide +kernel
theorem dX4_fitsWith_46 : decode cX4_fitsWith 46 = .ok (.if_icmp .eq 19, 3) := by decide +kernel
theorem dX4_fitsWith_49 : decode cX4_fitsWith 49 = .ok (.iload 6, 2) := by decide +kernel
theorem dX4_fitsWith_51 : decode cX4_fitsWith 51 = .ok (.aload_n 0, 1) := by decide +kernel
theorem dX4_fitsWith_52 : decode cX4_fitsWith 52 = .ok (.getfield 19, 3) := by decide +kernel
theorem dX4_fitsWith_55 : decode cX4_fitsWith 55 = .ok (.getfield 140, 3) := by decide +kernel
theorem dX4_fitsWith_58 : decode cX4_fitsWith 58 = .ok (.iload_n 2, 1) := by decide +kernel
theorem dX4_fitsWith_59 : decode cX4_fitsWith 59 = .ok (.iaload, 1) := by decide +kernel
theorem dX4_fitsWith_60 : decode cX4_fitsWith 60 = .ok (.if_icmp .eq 5, 3) := by decide +kernel
theorem dX4_fitsWith_63 : decode cX4_fitsWith 63 = .ok (.iconst 0, 1) := by decide +kernel
theorem dX4_fitsWith_64 : decode cX4_fitsWith 64 = .ok (.ireturn, 1) := by decide +kernel
theorem dX4_fitsWith_65 : decode cX4_fitsWith 65 = .ok (.aload_n 0, 1) := by decide +kernel
theorem dX4_fitsWith_66 : decode cX4_fitsWith 66 = .ok (.getfield 19, 3) := by decide +kernel
theorem dX4_fitsWith_69 : decode cX4_fitsWith 69 = .ok (.iconst 1, 1) := by decide +kernel
theorem dX4_fitsWith_70 : decode cX4_fitsWith 70 = .ok (.invokevirtual 116, 3) := by decide +kernel
theorem dX4_fitsWith_73 : decode cX4_fitsWith 73 = .ok (.iinc 5 1, 3) := by decide +kernel
theorem dX4_fitsWith_76 : decode cX4_fitsWith 76 = .ok (.goto (-51), 3) := by decide +kernel
theorem dX4_fitsWith_79 : decode cX4_fitsWith 79 = .ok (.iconst 1, 1) := by decide +kernel
theorem dX4_fitsWith_80 : decode cX4_fitsWith 80 = .ok (.ireturn, 1) := by decide +kernel
theorem dX4_isWithin_0 : decode cX4_isWithin 0 = .ok (.iload_n 0, 1) := by decide +kernel
theorem dX4_isWithin_1 : decode cX4_isWithin 1 = .ok (.iload_n 1, 1) := by decide +kernel
theorem dX4_isWithin_2 : decode cX4_isWithin 2 = .ok (.if_icmp .lt 12, 3) := by decide +kernel
theorem dX4_isWithin_5 : decode cX4_isWithin 5 = .ok (.iload_n 0, 1) := by decide +kernel
theorem dX4_isWithin_6 : decode cX4_isWithin 6 = .ok (.iload_n 2, 1) := by decide +kernel
theorem dX4_isWithin_7 : decode cX4_isWithin 7 = .ok (.if_icmp .gt 7, 3) := by decide +kernel
theorem dX4_isWithin_10 : decode cX4_isWithin 10 = .ok (.iconst 1, 1) := by decide +kernel
theorem dX4_isWithin_11 : decode cX4_isWithin 11 = .ok (.goto 4, 3) := by decide +kernel
theorem dX4_isWithin_14 : decode cX4_isWithin 14 = .ok (.iconst 0, 1) := by decide +kernel
theorem dX4_isWithin_15 : decode cX4_isWithin 15 = .ok (.ireturn, 1) := by decide +kernel
theorem dX4_isPlace_0 : decode cX4_isPlace 0 = .ok (.iload_n 0, 1) := by decide +kernel
theorem dX4_isPlace_1 : decode cX4_isPlace 1 = .ok (.ifCond .lt 13, 3) := by decide +kernel
theorem dX4_isPlace_4 : decode cX4_isPlace 4 = .ok (.iload_n 0, 1) := by decide +kernel
theorem dX4_isPlace_5 : decode cX4_isPlace 5 = .ok (.bipush 8, 2) := by decide +kernel
theorem dX4_isPlace_7 : decode cX4_isPlace 7 = .ok (.if_icmp .ge 7, 3) := by decide +kernel
theorem dX4_isPlace_10 : decode cX4_isPlace 10 = .ok (.iconst 1, 1) := by decide +kernel
theorem dX4_isPlace_11 : decode cX4_isPlace 11 = .ok (.goto 4, 3) := by decide +kernel
theorem dX4_isPlace_14 : decode cX4_isPlace 14 = .ok (.iconst 0, 1) := by decide +kernel
theorem dX4_isPlace_15 : decode cX4_isPlace 15 = .ok (.ireturn, 1) := by decide +kernel
set_option maxRecDepth 20000 in
theorem ggX4_isKind_X4_isWithin : GoodIn wsX4_isKind wsX4_isWithin := goodIn_r _ [4] (by decide +kernel) (by decide +kernel)
set_option maxRecDepth 20000 in
theorem gX4_isKind_X4_isWithin : GoodIn wsX4_isKind (va_wsS RX4 48 yX4_isWithin wsX4_isWithin) := goodIn_app (goodIn_of _ (by decide +kernel)) ggX4_isKind_X4_isWithin
theorem dX4_isKind_0 : decode cX4_isKind 0 = .ok (.iload_n 0, 1) := by decide +kernel
theorem dX4_isKind_1 : decode cX4_isKind 1 = .ok (.iconst 0, 1) := by decide +kernel
theorem dX4_isKind_2 : decode cX4_isKind 2 = .ok (.bipush 6, 2) := by decide +kernel
theorem dX4_isKind_4 : decode cX4_isKind 4 = .ok (.invokestatic 48, 3) := by decide +kernel
theorem dX4_isKind_7 : decode cX4_isKind 7 = .ok (.ireturn, 1) := by decide +kernel
set_option maxRecDepth 20000 in
theorem ggX4_isSpot_X4_isWithin : GoodIn wsX4_isSpot wsX4_isWithin := goodIn_r _ [4] (by decide +kernel) (by decide +kernel)
set_option maxRecDepth 20000 in
theorem gX4_isSpot_X4_isWithin : GoodIn wsX4_isSpot (va_wsS RX4 48 yX4_isWithin wsX4_isWithin) := goodIn_app (goodIn_of _ (by decide +kernel)) ggX4_isSpot_X4_isWithin
theorem dX4_isSpot_0 : decode cX4_isSpot 0 = .ok (.iload_n 0, 1) := by decide +kernel
theorem dX4_isSpot_1 : decode cX4_isSpot 1 = .ok (.iconst 0, 1) := by decide +kernel
theorem dX4_isSpot_2 : decode cX4_isSpot 2 = .ok (.bipush 9, 2) := by decide +kernel
theorem dX4_isSpot_4 : decode cX4_isSpot 4 = .ok (.invokestatic 48, 3) := by decide +kernel
theorem dX4_isSpot_7 : decode cX4_isSpot 7 = .ok (.ireturn, 1) := by decide +kernel
set_option maxRecDepth 20000 in
theorem ggX4_isSheet_X4_isWithin : GoodIn wsX4_isSheet wsX4_isWithin := goodIn_r _ [4] (by decide +kernel) (by decide +kernel)
set_option maxRecDepth 20000 in
theorem gX4_isSheet_X4_isWithin : GoodIn wsX4_isSheet (va_wsS RX4 48 yX4_isWithin wsX4_isWithin) := goodIn_app (goodIn_of _ (by decide +kernel)) ggX4_isSheet_X4_isWithin
theorem dX4_isSheet_0 : decode cX4_isSheet 0 = .ok (.iload_n 0, 1) := by decide +kernel
theorem dX4_isSheet_1 : decode cX4_isSheet 1 = .ok (.iconst 0, 1) := by decide +kernel
theorem dX4_isSheet_2 : decode cX4_isSheet 2 = .ok (.iconst 3, 1) := by decide +kernel
theorem dX4_isSheet_3 : decode cX4_isSheet 3 = .ok (.invokestatic 48, 3) := by decide +kernel
theorem dX4_isSheet_6 : decode cX4_isSheet 6 = .ok (.ireturn, 1) := by decide +kernel
set_option maxRecDepth 20000 in
theorem ggX4_isUnder_X4_isKind : GoodIn wsX4_isUnder wsX4_isKind := goodIn_r _ [5, 6, 7, 4, 8] (by decide +kernel) (by decide +kernel)
set_option maxRecDepth 20000 in
theorem gX4_isUnder_X4_isKind : GoodIn wsX4_isUnder (va_wsS RX4 69 yX4_isKind wsX4_isKind) := goodIn_app (goodIn_of _ (by decide +kernel)) ggX4_isUnder_X4_isKind
theorem dX4_isUnder_0 : decode cX4_isUnder 0 = .ok (.iload_n 0, 1) := by decide +kernel
theorem dX4_isUnder_1 : decode cX4_isUnder 1 = .ok (.istore_n 2, 1) := by decide +kernel
theorem dX4_isUnder_2 : decode cX4_isUnder 2 = .ok (.iconst 0, 1) := by decide +kernel
theorem dX4_isUnder_3 : decode cX4_isUnder 3 = .ok (.istore_n 3, 1) := by decide +kernel
theorem dX4_isUnder_4 : decode cX4_isUnder 4 = .ok (.iload_n 3, 1) := by decide +kernel
theorem dX4_isUnder_5 : decode cX4_isUnder 5 = .ok (.bipush 7, 2) := by decide +kernel
theorem dX4_isUnder_7 : decode cX4_isUnder 7 = .ok (.if_icmp .ge 29, 3) := by decide +kernel
theorem dX4_isUnder_10 : decode cX4_isUnder 10 = .ok (.iload_n 2, 1) := by decide +kernel
theorem dX4_isUnder_11 : decode cX4_isUnder 11 = .ok (.invokestatic 69, 3) := by decide +kernel
theorem dX4_isUnder_14 : decode cX4_isUnder 14 = .ok (.ifCond .eq 22, 3) := by decide +kernel
theorem dX4_isUnder_17 : decode cX4_isUnder 17 = .ok (.iload_n 2, 1) := by decide +kernel
theorem dX4_isUnder_18 : decode cX4_isUnder 18 = .ok (.iload_n 1, 1) := by decide +kernel
theorem dX4_isUnder_19 : decode cX4_isUnder 19 = .ok (.if_icmp .ne 5, 3) := by decide +kernel
theorem dX4_isUnder_22 : decode cX4_isUnder 22 = .ok (.iconst 1, 1) := by decide +kernel
theorem dX4_isUnder_23 : decode cX4_isUnder 23 = .ok (.ireturn, 1) := by decide +kernel
theorem dX4_isUnder_24 : decode cX4_isUnder 24 = .ok (.getstatic 270, 3) := by decide +kernel
theorem dX4_isUnder_27 : decode cX4_isUnder 27 = .ok (.iload_n 2, 1) := by decide +kernel
theorem dX4_isUnder_28 : decode cX4_isUnder 28 = .ok (.iaload, 1) := by decide +kernel
theorem dX4_isUnder_29 : decode cX4_isUnder 29 = .ok (.istore_n 2, 1) := by decide +kernel
theorem dX4_isUnder_30 : decode cX4_isUnder 30 = .ok (.iinc 3 1, 3) := by decide +kernel
theorem dX4_isUnder_33 : decode cX4_isUnder 33 = .ok (.goto (-29), 3) := by decide +kernel
theorem dX4_isUnder_36 : decode cX4_isUnder 36 = .ok (.iconst 0, 1) := by decide +kernel
theorem dX4_isUnder_37 : decode cX4_isUnder 37 = .ok (.ireturn, 1) := by decide +kernel
theorem dX4_shareOf_0 : decode cX4_shareOf 0 = .ok (.iload_n 1, 1) := by decide +kernel
theorem dX4_shareOf_1 : decode cX4_shareOf 1 = .ok (.ifCond .le 9, 3) := by decide +kernel
theorem dX4_shareOf_4 : decode cX4_shareOf 4 = .ok (.iload_n 0, 1) := by decide +kernel
theorem dX4_shareOf_5 : decode cX4_shareOf 5 = .ok (.iload_n 1, 1) := by decide +kernel
theorem dX4_shareOf_6 : decode cX4_shareOf 6 = .ok (.idiv, 1) := by decide +kernel
theorem dX4_shareOf_7 : decode cX4_shareOf 7 = .ok (.goto 4, 3) := by decide +kernel
theorem dX4_shareOf_10 : decode cX4_shareOf 10 = .ok (.iconst 0, 1) := by decide +kernel
theorem dX4_shareOf_11 : decode cX4_shareOf 11 = .ok (.ireturn, 1) := by decide +kernel
theorem dX4_powerOf_0 : decode cX4_powerOf 0 = .ok (.lconst 1, 1) := by decide +kernel
theorem dX4_powerOf_1 : decode cX4_powerOf 1 = .ok (.lstore_n 2, 1) := by decide +kernel
theorem dX4_powerOf_2 : decode cX4_powerOf 2 = .ok (.iconst 0, 1) := by decide +kernel
theorem dX4_powerOf_3 : decode cX4_powerOf 3 = .ok (.istore 4, 2) := by decide +kernel
theorem dX4_powerOf_5 : decode cX4_powerOf 5 = .ok (.iload 4, 2) := by decide +kernel
theorem dX4_powerOf_7 : decode cX4_powerOf 7 = .ok (.iload_n 1, 1) := by decide +kernel
theorem dX4_powerOf_8 : decode cX4_powerOf 8 = .ok (.if_icmp .ge 14, 3) := by decide +kernel
theorem dX4_powerOf_11 : decode cX4_powerOf 11 = .ok (.lload_n 2, 1) := by decide +kernel
theorem dX4_powerOf_12 : decode cX4_powerOf 12 = .ok (.iload_n 0, 1) := by decide +kernel
theorem dX4_powerOf_13 : decode cX4_powerOf 13 = .ok (.i2l, 1) := by decide +kernel
theorem dX4_powerOf_14 : decode cX4_powerOf 14 = .ok (.lmul, 1) := by decide +kernel
theorem dX4_powerOf_15 : decode cX4_powerOf 15 = .ok (.lstore_n 2, 1) := by decide +kernel
theorem dX4_powerOf_16 : decode cX4_powerOf 16 = .ok (.iinc 4 1, 3) := by decide +kernel
theorem dX4_powerOf_19 : decode cX4_powerOf 19 = .ok (.goto (-14), 3) := by decide +kernel
theorem dX4_powerOf_22 : decode cX4_powerOf 22 = .ok (.lload_n 2, 1) := by decide +kernel
theorem dX4_powerOf_23 : decode cX4_powerOf 23 = .ok (.lreturn, 1) := by decide +kernel
