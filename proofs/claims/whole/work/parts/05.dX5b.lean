theorem dX5_goodsWithout_0 : decode cX5_goodsWithout 0 = .ok (.aload_n 0, 1) := by decide +kernel
theorem dX5_goodsWithout_1 : decode cX5_goodsWithout 1 = .ok (.getfield 9, 3) := by decide +kernel
theorem dX5_goodsWithout_4 : decode cX5_goodsWithout 4 = .ok (.aload_n 0, 1) := by decide +kernel
theorem dX5_goodsWithout_5 : decode cX5_goodsWithout 5 = .ok (.getfield 16, 3) := by decide +kernel
theorem dX5_goodsWithout_8 : decode cX5_goodsWithout 8 = .ok (.invokestatic 71, 3) := by decide +kernel
theorem dX5_goodsWithout_11 : decode cX5_goodsWithout 11 = .ok (.aload_n 0, 1) := by decide +kernel
theorem dX5_goodsWithout_12 : decode cX5_goodsWithout 12 = .ok (.iload_n 1, 1) := by decide +kernel
theorem dX5_goodsWithout_13 : decode cX5_goodsWithout 13 = .ok (.putfield 28, 3) := by decide +kernel
theorem dX5_goodsWithout_16 : decode cX5_goodsWithout 16 = .ok (.aload_n 0, 1) := by decide +kernel
theorem dX5_goodsWithout_17 : decode cX5_goodsWithout 17 = .ok (.invokevirtual 156, 3) := by decide +kernel
theorem dX5_goodsWithout_20 : decode cX5_goodsWithout 20 = .ok (.aload_n 0, 1) := by decide +kernel
theorem dX5_goodsWithout_21 : decode cX5_goodsWithout 21 = .ok (.iconst (-1), 1) := by decide +kernel
theorem dX5_goodsWithout_22 : decode cX5_goodsWithout 22 = .ok (.putfield 28, 3) := by decide +kernel
theorem dX5_goodsWithout_25 : decode cX5_goodsWithout 25 = .ok (.aload_n 0, 1) := by decide +kernel
theorem dX5_goodsWithout_26 : decode cX5_goodsWithout 26 = .ok (.aload_n 0, 1) := by decide +kernel
theorem dX5_goodsWithout_27 : decode cX5_goodsWithout 27 = .ok (.invokevirtual 164, 3) := by decide +kernel
theorem dX5_goodsWithout_30 : decode cX5_goodsWithout 30 = .ok (.aload_n 0, 1) := by decide +kernel
theorem dX5_goodsWithout_31 : decode cX5_goodsWithout 31 = .ok (.iload_n 1, 1) := by decide +kernel
theorem dX5_goodsWithout_32 : decode cX5_goodsWithout 32 = .ok (.iconst 4, 1) := by decide +kernel
theorem dX5_goodsWithout_33 : decode cX5_goodsWithout 33 = .ok (.invokevirtual 106, 3) := by decide +kernel
theorem dX5_goodsWithout_36 : decode cX5_goodsWithout 36 = .ok (.isub, 1) := by decide +kernel
theorem dX5_goodsWithout_37 : decode cX5_goodsWithout 37 = .ok (.invokevirtual 180, 3) := by decide +kernel
theorem dX5_goodsWithout_40 : decode cX5_goodsWithout 40 = .ok (.ireturn, 1) := by decide +kernel
set_option maxRecDepth 20000 in
theorem ggX5_away_X5_goodsWithout : GoodIn wsX5_away wsX5_goodsWithout := goodIn_r _ [10, 1, 11, 12, 13, 14, 9, 15, 16, 17, 18, 19, 20, 21, 22, 23, 4, 24, 25, 26, 27, 28, 29, 30, 31, 32, 33, 34, 35, 36, 37, 38, 39, 40, 41, 42, 43, 44, 45, 46, 47, 48, 49, 50, 51, 52, 53, 54, 55, 56, 57, 58, 59, 60, 61, 62, 63, 64, 65, 66, 67, 68, 69, 70, 71, 72, 73, 74, 75, 76, 77, 78, 90, 91, 92, 93, 94, 95, 96, 97, 98, 99, 100, 101, 102, 103, 104, 105, 106, 107, 108, 109, 110, 111, 112] (by decide +kernel) (by decide +kernel)
set_option maxRecDepth 20000 in
theorem gX5_away_X5_goodsWithout : GoodIn wsX5_away (wsV RX5 218 RX5 yX5_goodsWithout wsX5_goodsWithout) := goodIn_app (goodIn_of _ (by decide +kernel)) ggX5_away_X5_goodsWithout
set_option maxRecDepth 20000 in
theorem ggX5_away_X5_orNone : GoodIn wsX5_away wsX5_orNone := goodIn_r _ [82, 83, 84, 85, 86, 9, 87, 88, 89, 90, 91, 92, 93, 94, 95, 96, 97, 98, 99, 100, 101, 102, 103, 104, 105, 106, 107, 108, 109, 110, 111, 112] (by decide +kernel) (by decide +kernel)
set_option maxRecDepth 20000 in
theorem gX5_away_X5_orNone : GoodIn wsX5_away (wsV RX5 189 RX5 yX5_orNone wsX5_orNone) := goodIn_app (goodIn_of _ (by decide +kernel)) ggX5_away_X5_orNone
theorem dX5_away_0 : decode cX5_away 0 = .ok (.iconst (-1), 1) := by decide +kernel
theorem dX5_away_1 : decode cX5_away 1 = .ok (.istore_n 1, 1) := by decide +kernel
theorem dX5_away_2 : decode cX5_away 2 = .ok (.iconst (-1), 1) := by decide +kernel
theorem dX5_away_3 : decode cX5_away 3 = .ok (.istore_n 2, 1) := by decide +kernel
theorem dX5_away_4 : decode cX5_away 4 = .ok (.iconst 0, 1) := by decide +kernel
theorem dX5_away_5 : decode cX5_away 5 = .ok (.istore_n 3, 1) := by decide +kernel
theorem dX5_away_6 : decode cX5_away 6 = .ok (.iload_n 3, 1) := by decide +kernel
theorem dX5_away_7 : decode cX5_away 7 = .ok (.aload_n 0, 1) := by decide +kernel
theorem dX5_away_8 : decode cX5_away 8 = .ok (.getfield 9, 3) := by decide +kernel
theorem dX5_away_11 : decode cX5_away 11 = .ok (.iconst 1, 1) := by decide +kernel
theorem dX5_away_12 : decode cX5_away 12 = .ok (.iaload, 1) := by decide +kernel
theorem dX5_away_13 : decode cX5_away 13 = .ok (.if_icmp .ge 35, 3) := by decide +kernel
theorem dX5_away_16 : decode cX5_away 16 = .ok (.aload_n 0, 1) := by decide +kernel
theorem dX5_away_17 : decode cX5_away 17 = .ok (.iload_n 3, 1) := by decide +kernel
theorem dX5_away_18 : decode cX5_away 18 = .ok (.invokevirtual 218, 3) := by decide +kernel
theorem dX5_away_21 : decode cX5_away 21 = .ok (.istore 4, 2) := by decide +kernel
theorem dX5_away_23 : decode cX5_away 23 = .ok (.iload 4, 2) := by decide +kernel
theorem dX5_away_25 : decode cX5_away 25 = .ok (.iload_n 2, 1) := by decide +kernel
theorem dX5_away_26 : decode cX5_away 26 = .ok (.if_icmp .le 7, 3) := by decide +kernel
theorem dX5_away_29 : decode cX5_away 29 = .ok (.iload_n 3, 1) := by decide +kernel
theorem dX5_away_30 : decode cX5_away 30 = .ok (.goto 4, 3) := by decide +kernel
theorem dX5_away_33 : decode cX5_away 33 = .ok (.iload_n 1, 1) := by decide +kernel
theorem dX5_away_34 : decode cX5_away 34 = .ok (.istore_n 1, 1) := by decide +kernel
theorem dX5_away_35 : decode cX5_away 35 = .ok (.iload_n 2, 1) := by decide +kernel
theorem dX5_away_36 : decode cX5_away 36 = .ok (.iload 4, 2) := by decide +kernel
theorem dX5_away_38 : decode cX5_away 38 = .ok (.invokestatic 199, 3) := by decide +kernel
theorem dX5_away_41 : decode cX5_away 41 = .ok (.istore_n 2, 1) := by decide +kernel
theorem dX5_away_42 : decode cX5_away 42 = .ok (.iinc 3 1, 3) := by decide +kernel
theorem dX5_away_45 : decode cX5_away 45 = .ok (.goto (-39), 3) := by decide +kernel
theorem dX5_away_48 : decode cX5_away 48 = .ok (.aload_n 0, 1) := by decide +kernel
theorem dX5_away_49 : decode cX5_away 49 = .ok (.iload_n 1, 1) := by decide +kernel
theorem dX5_away_50 : decode cX5_away 50 = .ok (.invokevirtual 189, 3) := by decide +kernel
theorem dX5_away_53 : decode cX5_away 53 = .ok (.ireturn, 1) := by decide +kernel
set_option maxRecDepth 20000 in
theorem ggX5_goodsSwapped_X5_copyRow : GoodIn wsX5_goodsSwapped wsX5_copyRow := goodIn_r _ [6] (by decide +kernel) (by decide +kernel)
set_option maxRecDepth 20000 in
theorem gX5_goodsSwapped_X5_copyRow : GoodIn wsX5_goodsSwapped (va_wsS RX5 71 yX5_copyRow wsX5_copyRow) := goodIn_app (goodIn_of _ (by decide +kernel)) ggX5_goodsSwapped_X5_copyRow
set_option maxRecDepth 20000 in
theorem ggX5_goodsSwapped_X5_at : GoodIn wsX5_goodsSwapped wsX5_at := goodIn_r _ [9] (by decide +kernel) (by decide +kernel)
set_option maxRecDepth 20000 in
theorem gX5_goodsSwapped_X5_at : GoodIn wsX5_goodsSwapped (va_wsS RX5 84 yX5_at wsX5_at) := goodIn_app (goodIn_of _ (by decide +kernel)) ggX5_goodsSwapped_X5_at
set_option maxRecDepth 20000 in
theorem ggX5_goodsSwapped_X5_personIs : GoodIn wsX5_goodsSwapped wsX5_personIs := goodIn_r _ [13, 1, 7, 8, 5, 9, 80, 81, 82, 83, 84, 85, 86, 87, 88, 89, 90, 91, 92, 93, 94, 95, 96, 97, 98, 99, 100, 101, 102] (by decide +kernel) (by decide +kernel)
set_option maxRecDepth 20000 in
theorem gX5_goodsSwapped_X5_personIs : GoodIn wsX5_goodsSwapped (wsV RX5 106 RX5 yX5_personIs wsX5_personIs) := goodIn_app (goodIn_of _ (by decide +kernel)) ggX5_goodsSwapped_X5_personIs
set_option maxRecDepth 20000 in
theorem ggX5_goodsSwapped_X5_become : GoodIn wsX5_goodsSwapped wsX5_become := goodIn_r _ [17, 1, 80, 81, 82, 83, 84, 85, 86, 87, 88, 89, 90, 91, 92, 93, 94, 95, 96, 97, 98, 99, 100, 101, 102] (by decide +kernel) (by decide +kernel)
set_option maxRecDepth 20000 in
theorem gX5_goodsSwapped_X5_become : GoodIn wsX5_goodsSwapped (wsV RX5 95 RX5 yX5_become wsX5_become) := goodIn_app (goodIn_of _ (by decide +kernel)) ggX5_goodsSwapped_X5_become
set_option maxRecDepth 20000 in
theorem ggX5_goodsSwapped_X5_goesOn : GoodIn wsX5_goodsSwapped wsX5_goesOn := goodIn_r _ [21, 22, 23, 24, 5, 25, 1, 26, 27, 28, 29, 30, 31, 32, 33, 34, 35, 36, 37, 38, 39, 40, 41, 10, 11, 12, 13, 7, 8, 9, 42, 43, 44, 45, 46, 47, 48, 49, 50, 51, 52, 53, 54, 55, 56, 57, 58, 59, 60, 61, 62, 63, 64, 65, 66, 67, 68, 69, 70, 71, 80, 81, 82, 83, 84, 85, 86, 87, 88, 89, 90, 91, 92, 93, 94, 95, 96, 97, 98, 99, 100, 101, 102] (by decide +kernel) (by decide +kernel)
set_option maxRecDepth 20000 in
theorem gX5_goodsSwapped_X5_goesOn : GoodIn wsX5_goodsSwapped (wsV RX5 160 RX5 yX5_goesOn wsX5_goesOn) := goodIn_app (goodIn_of _ (by decide +kernel)) ggX5_goodsSwapped_X5_goesOn
set_option maxRecDepth 20000 in
theorem ggX5_goodsSwapped_X5_goodsAll : GoodIn wsX5_goodsSwapped wsX5_goodsAll := goodIn_r _ [75, 1, 10, 11, 12, 5, 13, 7, 8, 9, 80, 81, 82, 83, 84, 85, 86, 87, 88, 89, 90, 91, 92, 93, 94, 95, 96, 97, 98, 99, 100, 101, 102] (by decide +kernel) (by decide +kernel)
set_option maxRecDepth 20000 in
theorem gX5_goodsSwapped_X5_goodsAll : GoodIn wsX5_goodsSwapped (wsV RX5 164 RX5 yX5_goodsAll wsX5_goodsAll) := goodIn_app (goodIn_of _ (by decide +kernel)) ggX5_goodsSwapped_X5_goodsAll
set_option maxRecDepth 20000 in
theorem ggX5_goodsSwapped_X5_putBack : GoodIn wsX5_goodsSwapped wsX5_putBack := goodIn_r _ [79, 2, 1, 3, 4, 5, 6, 80, 81, 82, 83, 84, 85, 86, 87, 88, 89, 90, 91, 92, 93, 94, 95, 96, 97, 98, 99, 100, 101, 102] (by decide +kernel) (by decide +kernel)
set_option maxRecDepth 20000 in
theorem gX5_goodsSwapped_X5_putBack : GoodIn wsX5_goodsSwapped (wsV RX5 180 RX5 yX5_putBack wsX5_putBack) := goodIn_app (goodIn_of _ (by decide +kernel)) ggX5_goodsSwapped_X5_putBack
theorem dX5_goodsSwapped_0 : decode cX5_goodsSwapped 0 = .ok (.aload_n 0, 1) := by decide +kernel
theorem dX5_goodsSwapped_1 : decode cX5_goodsSwapped 1 = .ok (.getfield 9, 3) := by decide +kernel
theorem dX5_goodsSwapped_4 : decode cX5_goodsSwapped 4 = .ok (.aload_n 0, 1) := by decide +kernel
theorem dX5_goodsSwapped_5 : decode cX5_goodsSwapped 5 = .ok (.getfield 16, 3) := by decide +kernel
theorem dX5_goodsSwapped_8 : decode cX5_goodsSwapped 8 = .ok (.invokestatic 71, 3) := by decide +kernel
theorem dX5_goodsSwapped_11 : decode cX5_goodsSwapped 11 = .ok (.aload_n 0, 1) := by decide +kernel
theorem dX5_goodsSwapped_12 : decode cX5_goodsSwapped 12 = .ok (.iload_n 1, 1) := by decide +kernel
theorem dX5_goodsSwapped_13 : decode cX5_goodsSwapped 13 = .ok (.iconst 1, 1) := by decide +kernel
theorem dX5_goodsSwapped_14 : decode cX5_goodsSwapped 14 = .ok (.invokestatic 84, 3) := by decide +kernel
theorem dX5_goodsSwapped_17 : decode cX5_goodsSwapped 17 = .ok (.aload_n 0, 1) := by decide +kernel
theorem dX5_goodsSwapped_18 : decode cX5_goodsSwapped 18 = .ok (.iload_n 2, 1) := by decide +kernel
theorem dX5_goodsSwapped_19 : decode cX5_goodsSwapped 19 = .ok (.iconst 1, 1) := by decide +kernel
theorem dX5_goodsSwapped_20 : decode cX5_goodsSwapped 20 = .ok (.invokevirtual 106, 3) := by decide +kernel
theorem dX5_goodsSwapped_23 : decode cX5_goodsSwapped 23 = .ok (.invokevirtual 95, 3) := by decide +kernel
theorem dX5_goodsSwapped_26 : decode cX5_goodsSwapped 26 = .ok (.istore 4, 2) := by decide +kernel
theorem dX5_goodsSwapped_28 : decode cX5_goodsSwapped 28 = .ok (.aload_n 0, 1) := by decide +kernel
theorem dX5_goodsSwapped_29 : decode cX5_goodsSwapped 29 = .ok (.getfield 9, 3) := by decide +kernel
theorem dX5_goodsSwapped_32 : decode cX5_goodsSwapped 32 = .ok (.iload_n 2, 1) := by decide +kernel
theorem dX5_goodsSwapped_33 : decode cX5_goodsSwapped 33 = .ok (.iconst 1, 1) := by decide +kernel
theorem dX5_goodsSwapped_34 : decode cX5_goodsSwapped 34 = .ok (.invokestatic 84, 3) := by decide +kernel
theorem dX5_goodsSwapped_37 : decode cX5_goodsSwapped 37 = .ok (.iload 4, 2) := by decide +kernel
theorem dX5_goodsSwapped_39 : decode cX5_goodsSwapped 39 = .ok (.iastore, 1) := by decide +kernel
theorem dX5_goodsSwapped_40 : decode cX5_goodsSwapped 40 = .ok (.aload_n 0, 1) := by decide +kernel
theorem dX5_goodsSwapped_41 : decode cX5_goodsSwapped 41 = .ok (.iload_n 3, 1) := by decide +kernel
theorem dX5_goodsSwapped_42 : decode cX5_goodsSwapped 42 = .ok (.invokevirtual 160, 3) := by decide +kernel
theorem dX5_goodsSwapped_45 : decode cX5_goodsSwapped 45 = .ok (.aload_n 0, 1) := by decide +kernel
theorem dX5_goodsSwapped_46 : decode cX5_goodsSwapped 46 = .ok (.aload_n 0, 1) := by decide +kernel
theorem dX5_goodsSwapped_47 : decode cX5_goodsSwapped 47 = .ok (.invokevirtual 164, 3) := by decide +kernel
theorem dX5_goodsSwapped_50 : decode cX5_goodsSwapped 50 = .ok (.invokevirtual 180, 3) := by decide +kernel
theorem dX5_goodsSwapped_53 : decode cX5_goodsSwapped 53 = .ok (.ireturn, 1) := by decide +kernel
set_option maxRecDepth 20000 in
theorem ggX5_swapFor_X5_within : GoodIn wsX5_swapFor wsX5_within := goodIn_r _ [10] (by decide +kernel) (by decide +kernel)
set_option maxRecDepth 20000 in
theorem gX5_swapFor_X5_within : GoodIn wsX5_swapFor (va_wsS RX5 80 yX5_within wsX5_within) := goodIn_app (goodIn_of _ (by decide +kernel)) ggX5_swapFor_X5_within
set_option maxRecDepth 20000 in
theorem ggX5_swapFor_X5_finding : GoodIn wsX5_swapFor wsX5_finding := goodIn_r _ [14, 15, 1, 101, 102, 103, 104, 105, 106, 107, 108, 109, 110, 111, 112, 113, 114, 115, 116, 117, 118, 119, 120, 121, 122, 123] (by decide +kernel) (by decide +kernel)
set_option maxRecDepth 20000 in
theorem gX5_swapFor_X5_finding : GoodIn wsX5_swapFor (wsV RX5 76 RX5 yX5_finding wsX5_finding) := goodIn_app (goodIn_of _ (by decide +kernel)) ggX5_swapFor_X5_finding
set_option maxRecDepth 20000 in
theorem ggX5_swapFor_X5_goodsSwapped : GoodIn wsX5_swapFor wsX5_goodsSwapped := goodIn_r _ [19, 2, 20, 21, 22, 9, 23, 24, 25, 26, 27, 28, 29, 30, 31, 32, 33, 34, 35, 36, 37, 38, 39, 40, 41, 42, 43, 44, 45, 46, 5, 47, 48, 49, 50, 51, 52, 53, 54, 55, 56, 57, 58, 59, 60, 61, 62, 63, 64, 65, 66, 67, 68, 69, 70, 71, 72, 73, 74, 75, 76, 77, 78, 79, 80, 81, 82, 83, 84, 85, 86, 87, 88, 89, 90, 91, 92, 93, 94, 95, 101, 102, 103, 104, 105, 106, 107, 108, 109, 110, 111, 112, 113, 114, 115, 116, 117, 118, 119, 120, 121, 122, 123] (by decide +kernel) (by decide +kernel)
set_option maxRecDepth 20000 in
theorem gX5_swapFor_X5_goodsSwapped : GoodIn wsX5_swapFor (wsV RX5 221 RX5 yX5_goodsSwapped wsX5_goodsSwapped) := goodIn_app (goodIn_of _ (by decide +kernel)) ggX5_swapFor_X5_goodsSwapped
set_option maxRecDepth 20000 in
theorem ggX5_swapFor_X5_orNone : GoodIn wsX5_swapFor wsX5_orNone := goodIn_r _ [99, 100, 11, 12, 13, 9, 14, 15, 1, 101, 102, 103, 104, 105, 106, 107, 108, 109, 110, 111, 112, 113, 114, 115, 116, 117, 118, 119, 120, 121, 122, 123] (by decide +kernel) (by decide +kernel)
set_option maxRecDepth 20000 in
theorem gX5_swapFor_X5_orNone : GoodIn wsX5_swapFor (wsV RX5 189 RX5 yX5_orNone wsX5_orNone) := goodIn_app (goodIn_of _ (by decide +kernel)) ggX5_swapFor_X5_orNone
theorem dX5_swapFor_0 : decode cX5_swapFor 0 = .ok (.iload_n 1, 1) := by decide +kernel
theorem dX5_swapFor_1 : decode cX5_swapFor 1 = .ok (.iconst 0, 1) := by decide +kernel
theorem dX5_swapFor_2 : decode cX5_swapFor 2 = .ok (.bipush 40, 2) := by decide +kernel
theorem dX5_swapFor_4 : decode cX5_swapFor 4 = .ok (.invokestatic 80, 3) := by decide +kernel
theorem dX5_swapFor_7 : decode cX5_swapFor 7 = .ok (.ifCond .ne 10, 3) := by decide +kernel
theorem dX5_swapFor_10 : decode cX5_swapFor 10 = .ok (.aload_n 0, 1) := by decide +kernel
theorem dX5_swapFor_11 : decode cX5_swapFor 11 = .ok (.ldc 70, 2) := by decide +kernel
theorem dX5_swapFor_13 : decode cX5_swapFor 13 = .ok (.invokevirtual 76, 3) := by decide +kernel
theorem dX5_swapFor_16 : decode cX5_swapFor 16 = .ok (.ireturn, 1) := by decide +kernel
theorem dX5_swapFor_17 : decode cX5_swapFor 17 = .ok (.iconst (-1), 1) := by decide +kernel
theorem dX5_swapFor_18 : decode cX5_swapFor 18 = .ok (.istore_n 2, 1) := by decide +kernel
theorem dX5_swapFor_19 : decode cX5_swapFor 19 = .ok (.iconst (-1), 1) := by decide +kernel
theorem dX5_swapFor_20 : decode cX5_swapFor 20 = .ok (.istore_n 3, 1) := by decide +kernel
theorem dX5_swapFor_21 : decode cX5_swapFor 21 = .ok (.iconst 0, 1) := by decide +kernel
theorem dX5_swapFor_22 : decode cX5_swapFor 22 = .ok (.istore 4, 2) := by decide +kernel
theorem dX5_swapFor_24 : decode cX5_swapFor 24 = .ok (.iload 4, 2) := by decide +kernel
theorem dX5_swapFor_26 : decode cX5_swapFor 26 = .ok (.aload_n 0, 1) := by decide +kernel
theorem dX5_swapFor_27 : decode cX5_swapFor 27 = .ok (.getfield 9, 3) := by decide +kernel
theorem dX5_swapFor_30 : decode cX5_swapFor 30 = .ok (.iconst 1, 1) := by decide +kernel
theorem dX5_swapFor_31 : decode cX5_swapFor 31 = .ok (.iaload, 1) := by decide +kernel
theorem dX5_swapFor_32 : decode cX5_swapFor 32 = .ok (.if_icmp .ge 69, 3) := by decide +kernel
theorem dX5_swapFor_35 : decode cX5_swapFor 35 = .ok (.iload 4, 2) := by decide +kernel
theorem dX5_swapFor_37 : decode cX5_swapFor 37 = .ok (.iconst 1, 1) := by decide +kernel
theorem dX5_swapFor_38 : decode cX5_swapFor 38 = .ok (.iadd, 1) := by decide +kernel
theorem dX5_swapFor_39 : decode cX5_swapFor 39 = .ok (.istore 5, 2) := by decide +kernel
theorem dX5_swapFor_41 : decode cX5_swapFor 41 = .ok (.iload 5, 2) := by decide +kernel
theorem dX5_swapFor_43 : decode cX5_swapFor 43 = .ok (.aload_n 0, 1) := by decide +kernel
theorem dX5_swapFor_44 : decode cX5_swapFor 44 = .ok (.getfield 9, 3) := by decide +kernel
theorem dX5_swapFor_47 : decode cX5_swapFor 47 = .ok (.iconst 1, 1) := by decide +kernel
theorem dX5_swapFor_48 : decode cX5_swapFor 48 = .ok (.iaload, 1) := by decide +kernel
theorem dX5_swapFor_49 : decode cX5_swapFor 49 = .ok (.if_icmp .ge 46, 3) := by decide +kernel
theorem dX5_swapFor_52 : decode cX5_swapFor 52 = .ok (.aload_n 0, 1) := by decide +kernel
theorem dX5_swapFor_53 : decode cX5_swapFor 53 = .ok (.iload 4, 2) := by decide +kernel
theorem dX5_swapFor_55 : decode cX5_swapFor 55 = .ok (.iload 5, 2) := by decide +kernel
theorem dX5_swapFor_57 : decode cX5_swapFor 57 = .ok (.iload_n 1, 1) := by decide +kernel
theorem dX5_swapFor_58 : decode cX5_swapFor 58 = .ok (.invokevirtual 221, 3) := by decide +kernel
theorem dX5_swapFor_61 : decode cX5_swapFor 61 = .ok (.istore 6, 2) := by decide +kernel
theorem dX5_swapFor_63 : decode cX5_swapFor 63 = .ok (.iload 6, 2) := by decide +kernel
theorem dX5_swapFor_65 : decode cX5_swapFor 65 = .ok (.iload_n 3, 1) := by decide +kernel
theorem dX5_swapFor_66 : decode cX5_swapFor 66 = .ok (.if_icmp .le 14, 3) := by decide +kernel
theorem dX5_swapFor_69 : decode cX5_swapFor 69 = .ok (.bipush 8, 2) := by decide +kernel
theorem dX5_swapFor_71 : decode cX5_swapFor 71 = .ok (.iload 4, 2) := by decide +kernel
theorem dX5_swapFor_73 : decode cX5_swapFor 73 = .ok (.imul, 1) := by decide +kernel
theorem dX5_swapFor_74 : decode cX5_swapFor 74 = .ok (.iload 5, 2) := by decide +kernel
theorem dX5_swapFor_76 : decode cX5_swapFor 76 = .ok (.iadd, 1) := by decide +kernel
theorem dX5_swapFor_77 : decode cX5_swapFor 77 = .ok (.goto 4, 3) := by decide +kernel
theorem dX5_swapFor_80 : decode cX5_swapFor 80 = .ok (.iload_n 2, 1) := by decide +kernel
theorem dX5_swapFor_81 : decode cX5_swapFor 81 = .ok (.istore_n 2, 1) := by decide +kernel
theorem dX5_swapFor_82 : decode cX5_swapFor 82 = .ok (.iload_n 3, 1) := by decide +kernel
theorem dX5_swapFor_83 : decode cX5_swapFor 83 = .ok (.iload 6, 2) := by decide +kernel
theorem dX5_swapFor_85 : decode cX5_swapFor 85 = .ok (.invokestatic 199, 3) := by decide +kernel
theorem dX5_swapFor_88 : decode cX5_swapFor 88 = .ok (.istore_n 3, 1) := by decide +kernel
theorem dX5_swapFor_89 : decode cX5_swapFor 89 = .ok (.iinc 5 1, 3) := by decide +kernel
theorem dX5_swapFor_92 : decode cX5_swapFor 92 = .ok (.goto (-51), 3) := by decide +kernel
theorem dX5_swapFor_95 : decode cX5_swapFor 95 = .ok (.iinc 4 1, 3) := by decide +kernel
theorem dX5_swapFor_98 : decode cX5_swapFor 98 = .ok (.goto (-74), 3) := by decide +kernel
theorem dX5_swapFor_101 : decode cX5_swapFor 101 = .ok (.aload_n 0, 1) := by decide +kernel
theorem dX5_swapFor_102 : decode cX5_swapFor 102 = .ok (.iload_n 2, 1) := by decide +kernel
theorem dX5_swapFor_103 : decode cX5_swapFor 103 = .ok (.invokevirtual 189, 3) := by decide +kernel
theorem dX5_swapFor_106 : decode cX5_swapFor 106 = .ok (.ireturn, 1) := by decide +kernel
set_option maxRecDepth 20000 in
theorem ggX5_lacks_X5_isSheet : GoodIn wsX5_lacks wsX5_isSheet := goodIn_r _ [7, 8, 9, 6, 10] (by decide +kernel) (by decide +kernel)
set_option maxRecDepth 20000 in
theorem gX5_lacks_X5_isSheet : GoodIn wsX5_lacks (va_wsS RX5 224 yX5_isSheet wsX5_isSheet) := goodIn_app (goodIn_of _ (by decide +kernel)) ggX5_lacks_X5_isSheet
theorem dX5_lacks_0 : decode cX5_lacks 0 = .ok (.iload_n 1, 1) := by decide +kernel
theorem dX5_lacks_1 : decode cX5_lacks 1 = .ok (.invokestatic 224, 3) := by decide +kernel
theorem dX5_lacks_4 : decode cX5_lacks 4 = .ok (.ifCond .ne 8, 3) := by decide +kernel
theorem dX5_lacks_7 : decode cX5_lacks 7 = .ok (.ldc 70, 2) := by decide +kernel
theorem dX5_lacks_9 : decode cX5_lacks 9 = .ok (.goto 18, 3) := by decide +kernel
theorem dX5_lacks_12 : decode cX5_lacks 12 = .ok (.aload_n 0, 1) := by decide +kernel
theorem dX5_lacks_13 : decode cX5_lacks 13 = .ok (.getfield 58, 3) := by decide +kernel
theorem dX5_lacks_16 : decode cX5_lacks 16 = .ok (.iload_n 1, 1) := by decide +kernel
theorem dX5_lacks_17 : decode cX5_lacks 17 = .ok (.iaload, 1) := by decide +kernel
theorem dX5_lacks_18 : decode cX5_lacks 18 = .ok (.ifCond .ne 8, 3) := by decide +kernel
theorem dX5_lacks_21 : decode cX5_lacks 21 = .ok (.ldc 227, 2) := by decide +kernel
theorem dX5_lacks_23 : decode cX5_lacks 23 = .ok (.goto 4, 3) := by decide +kernel
theorem dX5_lacks_26 : decode cX5_lacks 26 = .ok (.iconst 0, 1) := by decide +kernel
theorem dX5_lacks_27 : decode cX5_lacks 27 = .ok (.ireturn, 1) := by decide +kernel
set_option maxRecDepth 20000 in
theorem ggX5_wentSo_X5_copyRow : GoodIn wsX5_wentSo wsX5_copyRow := goodIn_r _ [8] (by decide +kernel) (by decide +kernel)
set_option maxRecDepth 20000 in
theorem gX5_wentSo_X5_copyRow : GoodIn wsX5_wentSo (va_wsS RX5 71 yX5_copyRow wsX5_copyRow) := goodIn_app (goodIn_of _ (by decide +kernel)) ggX5_wentSo_X5_copyRow
set_option maxRecDepth 20000 in
theorem ggX5_wentSo_X5_personIs : GoodIn wsX5_wentSo wsX5_personIs := goodIn_r _ [12, 1, 13, 14, 7, 15, 66, 67, 68, 69, 70, 71, 72, 73, 74, 75, 76, 77, 78, 79, 80, 81, 82, 83, 84, 85, 86, 87, 88] (by decide +kernel) (by decide +kernel)
set_option maxRecDepth 20000 in
theorem gX5_wentSo_X5_personIs : GoodIn wsX5_wentSo (wsV RX5 106 RX5 yX5_personIs wsX5_personIs) := goodIn_app (goodIn_of _ (by decide +kernel)) ggX5_wentSo_X5_personIs
set_option maxRecDepth 20000 in
theorem ggX5_wentSo_X5_goes : GoodIn wsX5_wentSo wsX5_goes := goodIn_r _ [19, 1, 20, 21, 22, 23, 24, 25, 26, 27, 28, 29, 30, 7, 31, 32, 33, 34, 35, 9, 10, 11, 12, 13, 14, 15, 36, 37, 38, 39, 40, 41, 42, 43, 44, 45, 46, 47, 48, 49, 50, 51, 52, 53, 54, 55, 56, 57, 58, 59, 60, 61, 62, 63, 64, 65, 66, 67, 68, 69, 70, 71, 72, 73, 74, 75, 76, 77, 78, 79, 80, 81, 82, 83, 84, 85, 86, 87, 88] (by decide +kernel) (by decide +kernel)
set_option maxRecDepth 20000 in
theorem gX5_wentSo_X5_goes : GoodIn wsX5_wentSo (wsV RX5 156 RX5 yX5_goes wsX5_goes) := goodIn_app (goodIn_of _ (by decide +kernel)) ggX5_wentSo_X5_goes
theorem dX5_wentSo_0 : decode cX5_wentSo 0 = .ok (.aload_n 0, 1) := by decide +kernel
theorem dX5_wentSo_1 : decode cX5_wentSo 1 = .ok (.getfield 9, 3) := by decide +kernel
theorem dX5_wentSo_4 : decode cX5_wentSo 4 = .ok (.aload_n 0, 1) := by decide +kernel
theorem dX5_wentSo_5 : decode cX5_wentSo 5 = .ok (.getfield 16, 3) := by decide +kernel
theorem dX5_wentSo_8 : decode cX5_wentSo 8 = .ok (.invokestatic 71, 3) := by decide +kernel
theorem dX5_wentSo_11 : decode cX5_wentSo 11 = .ok (.iconst 1, 1) := by decide +kernel
theorem dX5_wentSo_12 : decode cX5_wentSo 12 = .ok (.istore_n 3, 1) := by decide +kernel
theorem dX5_wentSo_13 : decode cX5_wentSo 13 = .ok (.iconst 0, 1) := by decide +kernel
theorem dX5_wentSo_14 : decode cX5_wentSo 14 = .ok (.istore 4, 2) := by decide +kernel
theorem dX5_wentSo_16 : decode cX5_wentSo 16 = .ok (.iload 4, 2) := by decide +kernel
theorem dX5_wentSo_18 : decode cX5_wentSo 18 = .ok (.aload_n 0, 1) := by decide +kernel
theorem dX5_wentSo_19 : decode cX5_wentSo 19 = .ok (.getfield 61, 3) := by decide +kernel
theorem dX5_wentSo_22 : decode cX5_wentSo 22 = .ok (.iload_n 1, 1) := by decide +kernel
theorem dX5_wentSo_23 : decode cX5_wentSo 23 = .ok (.iaload, 1) := by decide +kernel
theorem dX5_wentSo_24 : decode cX5_wentSo 24 = .ok (.if_icmp .ge 54, 3) := by decide +kernel
theorem dX5_wentSo_27 : decode cX5_wentSo 27 = .ok (.iload_n 3, 1) := by decide +kernel
theorem dX5_wentSo_28 : decode cX5_wentSo 28 = .ok (.ifCond .eq 50, 3) := by decide +kernel
theorem dX5_wentSo_31 : decode cX5_wentSo 31 = .ok (.aload_n 0, 1) := by decide +kernel
theorem dX5_wentSo_32 : decode cX5_wentSo 32 = .ok (.getfield 64, 3) := by decide +kernel
theorem dX5_wentSo_35 : decode cX5_wentSo 35 = .ok (.bipush 40, 2) := by decide +kernel
theorem dX5_wentSo_37 : decode cX5_wentSo 37 = .ok (.iload_n 1, 1) := by decide +kernel
theorem dX5_wentSo_38 : decode cX5_wentSo 38 = .ok (.imul, 1) := by decide +kernel
theorem dX5_wentSo_39 : decode cX5_wentSo 39 = .ok (.iload 4, 2) := by decide +kernel
theorem dX5_wentSo_41 : decode cX5_wentSo 41 = .ok (.iadd, 1) := by decide +kernel
theorem dX5_wentSo_42 : decode cX5_wentSo 42 = .ok (.iaload, 1) := by decide +kernel
theorem dX5_wentSo_43 : decode cX5_wentSo 43 = .ok (.istore 5, 2) := by decide +kernel
theorem dX5_wentSo_45 : decode cX5_wentSo 45 = .ok (.iload 5, 2) := by decide +kernel
theorem dX5_wentSo_47 : decode cX5_wentSo 47 = .ok (.iconst (-1), 1) := by decide +kernel
theorem dX5_wentSo_48 : decode cX5_wentSo 48 = .ok (.if_icmp .eq 14, 3) := by decide +kernel
theorem dX5_wentSo_51 : decode cX5_wentSo 51 = .ok (.iload 5, 2) := by decide +kernel
theorem dX5_wentSo_53 : decode cX5_wentSo 53 = .ok (.aload_n 0, 1) := by decide +kernel
theorem dX5_wentSo_54 : decode cX5_wentSo 54 = .ok (.iload_n 2, 1) := by decide +kernel
theorem dX5_wentSo_55 : decode cX5_wentSo 55 = .ok (.iconst 4, 1) := by decide +kernel
theorem dX5_wentSo_56 : decode cX5_wentSo 56 = .ok (.invokevirtual 106, 3) := by decide +kernel
theorem dX5_wentSo_59 : decode cX5_wentSo 59 = .ok (.if_icmp .ne 7, 3) := by decide +kernel
theorem dX5_wentSo_62 : decode cX5_wentSo 62 = .ok (.iconst 1, 1) := by decide +kernel
theorem dX5_wentSo_63 : decode cX5_wentSo 63 = .ok (.goto 4, 3) := by decide +kernel
theorem dX5_wentSo_66 : decode cX5_wentSo 66 = .ok (.iconst 0, 1) := by decide +kernel
theorem dX5_wentSo_67 : decode cX5_wentSo 67 = .ok (.istore_n 3, 1) := by decide +kernel
theorem dX5_wentSo_68 : decode cX5_wentSo 68 = .ok (.aload_n 0, 1) := by decide +kernel
theorem dX5_wentSo_69 : decode cX5_wentSo 69 = .ok (.invokevirtual 156, 3) := by decide +kernel
theorem dX5_wentSo_72 : decode cX5_wentSo 72 = .ok (.iinc 4 1, 3) := by decide +kernel
theorem dX5_wentSo_75 : decode cX5_wentSo 75 = .ok (.goto (-59), 3) := by decide +kernel
theorem dX5_wentSo_78 : decode cX5_wentSo 78 = .ok (.aload_n 0, 1) := by decide +kernel
theorem dX5_wentSo_79 : decode cX5_wentSo 79 = .ok (.getfield 16, 3) := by decide +kernel
theorem dX5_wentSo_82 : decode cX5_wentSo 82 = .ok (.aload_n 0, 1) := by decide +kernel
theorem dX5_wentSo_83 : decode cX5_wentSo 83 = .ok (.getfield 9, 3) := by decide +kernel
theorem dX5_wentSo_86 : decode cX5_wentSo 86 = .ok (.invokestatic 71, 3) := by decide +kernel
theorem dX5_wentSo_89 : decode cX5_wentSo 89 = .ok (.iload_n 3, 1) := by decide +kernel
theorem dX5_wentSo_90 : decode cX5_wentSo 90 = .ok (.ireturn, 1) := by decide +kernel
set_option maxRecDepth 20000 in
theorem ggX5_fitting_X5_personIs : GoodIn wsX5_fitting wsX5_personIs := goodIn_r _ [6, 1, 7, 8, 5, 9, 70, 71, 72, 73, 74, 75, 76, 77, 78, 79, 80, 81, 82, 83, 84, 85, 86, 87, 88, 89, 90, 91, 92] (by decide +kernel) (by decide +kernel)
set_option maxRecDepth 20000 in
theorem gX5_fitting_X5_personIs : GoodIn wsX5_fitting (wsV RX5 106 RX5 yX5_personIs wsX5_personIs) := goodIn_app (goodIn_of _ (by decide +kernel)) ggX5_fitting_X5_personIs
set_option maxRecDepth 20000 in
theorem ggX5_fitting_X5_at : GoodIn wsX5_fitting wsX5_at := goodIn_r _ [9] (by decide +kernel) (by decide +kernel)
set_option maxRecDepth 20000 in
theorem gX5_fitting_X5_at : GoodIn wsX5_fitting (va_wsS RX5 84 yX5_at wsX5_at) := goodIn_app (goodIn_of _ (by decide +kernel)) ggX5_fitting_X5_at
set_option maxRecDepth 20000 in
theorem ggX5_fitting_X5_wentSo : GoodIn wsX5_fitting wsX5_wentSo := goodIn_r _ [13, 1, 14, 15, 16, 17, 18, 5, 19, 2, 3, 4, 6, 7, 8, 9, 20, 21, 22, 23, 24, 25, 26, 27, 28, 29, 30, 31, 32, 33, 34, 35, 36, 37, 38, 39, 40, 41, 42, 43, 44, 45, 46, 47, 48, 49, 50, 51, 52, 53, 54, 55, 56, 57, 58, 59, 60, 61, 62, 63, 64, 65, 66, 67, 68, 69, 70, 71, 72, 73, 74, 75, 76, 77, 78, 79, 80, 81, 82, 83, 84, 85, 86, 87, 88, 89, 90, 91, 92] (by decide +kernel) (by decide +kernel)
set_option maxRecDepth 20000 in
theorem gX5_fitting_X5_wentSo : GoodIn wsX5_fitting (wsV RX5 228 RX5 yX5_wentSo wsX5_wentSo) := goodIn_app (goodIn_of _ (by decide +kernel)) ggX5_fitting_X5_wentSo
theorem dX5_fitting_0 : decode cX5_fitting 0 = .ok (.aload_n 0, 1) := by decide +kernel
theorem dX5_fitting_1 : decode cX5_fitting 1 = .ok (.iload_n 2, 1) := by decide +kernel
theorem dX5_fitting_2 : decode cX5_fitting 2 = .ok (.iload_n 3, 1) := by decide +kernel
theorem dX5_fitting_3 : decode cX5_fitting 3 = .ok (.invokevirtual 106, 3) := by decide +kernel
theorem dX5_fitting_6 : decode cX5_fitting 6 = .ok (.istore 5, 2) := by decide +kernel
theorem dX5_fitting_8 : decode cX5_fitting 8 = .ok (.iconst 0, 1) := by decide +kernel
theorem dX5_fitting_9 : decode cX5_fitting 9 = .ok (.istore 6, 2) := by decide +kernel
theorem dX5_fitting_11 : decode cX5_fitting 11 = .ok (.iconst 0, 1) := by decide +kernel
theorem dX5_fitting_12 : decode cX5_fitting 12 = .ok (.istore 7, 2) := by decide +kernel
theorem dX5_fitting_14 : decode cX5_fitting 14 = .ok (.iload 7, 2) := by decide +kernel
theorem dX5_fitting_16 : decode cX5_fitting 16 = .ok (.iload 4, 2) := by decide +kernel
theorem dX5_fitting_18 : decode cX5_fitting 18 = .ok (.if_icmp .ge 43, 3) := by decide +kernel
theorem dX5_fitting_21 : decode cX5_fitting 21 = .ok (.aload_n 0, 1) := by decide +kernel
theorem dX5_fitting_22 : decode cX5_fitting 22 = .ok (.getfield 9, 3) := by decide +kernel
theorem dX5_fitting_25 : decode cX5_fitting 25 = .ok (.iload_n 2, 1) := by decide +kernel
theorem dX5_fitting_26 : decode cX5_fitting 26 = .ok (.iload_n 3, 1) := by decide +kernel
theorem dX5_fitting_27 : decode cX5_fitting 27 = .ok (.invokestatic 84, 3) := by decide +kernel
theorem dX5_fitting_30 : decode cX5_fitting 30 = .ok (.iload 7, 2) := by decide +kernel
theorem dX5_fitting_32 : decode cX5_fitting 32 = .ok (.iastore, 1) := by decide +kernel
theorem dX5_fitting_33 : decode cX5_fitting 33 = .ok (.iload 6, 2) := by decide +kernel
theorem dX5_fitting_35 : decode cX5_fitting 35 = .ok (.aload_n 0, 1) := by decide +kernel
theorem dX5_fitting_36 : decode cX5_fitting 36 = .ok (.iload_n 1, 1) := by decide +kernel
theorem dX5_fitting_37 : decode cX5_fitting 37 = .ok (.iload_n 2, 1) := by decide +kernel
theorem dX5_fitting_38 : decode cX5_fitting 38 = .ok (.invokevirtual 228, 3) := by decide +kernel
theorem dX5_fitting_41 : decode cX5_fitting 41 = .ok (.ifCond .eq 10, 3) := by decide +kernel
theorem dX5_fitting_44 : decode cX5_fitting 44 = .ok (.iconst 1, 1) := by decide +kernel
theorem dX5_fitting_45 : decode cX5_fitting 45 = .ok (.iload 7, 2) := by decide +kernel
theorem dX5_fitting_47 : decode cX5_fitting 47 = .ok (.ishl, 1) := by decide +kernel
theorem dX5_fitting_48 : decode cX5_fitting 48 = .ok (.goto 4, 3) := by decide +kernel
theorem dX5_fitting_51 : decode cX5_fitting 51 = .ok (.iconst 0, 1) := by decide +kernel
theorem dX5_fitting_52 : decode cX5_fitting 52 = .ok (.ior, 1) := by decide +kernel
theorem dX5_fitting_53 : decode cX5_fitting 53 = .ok (.istore 6, 2) := by decide +kernel
theorem dX5_fitting_55 : decode cX5_fitting 55 = .ok (.iinc 7 1, 3) := by decide +kernel
theorem dX5_fitting_58 : decode cX5_fitting 58 = .ok (.goto (-44), 3) := by decide +kernel
theorem dX5_fitting_61 : decode cX5_fitting 61 = .ok (.aload_n 0, 1) := by decide +kernel
theorem dX5_fitting_62 : decode cX5_fitting 62 = .ok (.getfield 9, 3) := by decide +kernel
theorem dX5_fitting_65 : decode cX5_fitting 65 = .ok (.iload_n 2, 1) := by decide +kernel
theorem dX5_fitting_66 : decode cX5_fitting 66 = .ok (.iload_n 3, 1) := by decide +kernel
theorem dX5_fitting_67 : decode cX5_fitting 67 = .ok (.invokestatic 84, 3) := by decide +kernel
theorem dX5_fitting_70 : decode cX5_fitting 70 = .ok (.iload 5, 2) := by decide +kernel
theorem dX5_fitting_72 : decode cX5_fitting 72 = .ok (.iastore, 1) := by decide +kernel
theorem dX5_fitting_73 : decode cX5_fitting 73 = .ok (.iload 6, 2) := by decide +kernel
theorem dX5_fitting_75 : decode cX5_fitting 75 = .ok (.ireturn, 1) := by decide +kernel
set_option maxRecDepth 20000 in
theorem ggX5_fits_X5_lacks : GoodIn wsX5_fits wsX5_lacks := goodIn_r _ [6, 1, 7, 8, 9, 10, 5, 11, 12, 13, 14, 96, 97, 98, 99, 100, 101, 102, 103, 104, 105, 106, 107, 108, 109, 110, 111, 112, 113, 114, 115, 116, 117, 118] (by decide +kernel) (by decide +kernel)
set_option maxRecDepth 20000 in
theorem gX5_fits_X5_lacks : GoodIn wsX5_fits (wsV RX5 231 RX5 yX5_lacks wsX5_lacks) := goodIn_app (goodIn_of _ (by decide +kernel)) ggX5_fits_X5_lacks
set_option maxRecDepth 20000 in
theorem ggX5_fits_X5_finding : GoodIn wsX5_fits wsX5_finding := goodIn_r _ [18, 19, 1, 96, 97, 98, 99, 100, 101, 102, 103, 104, 105, 106, 107, 108, 109, 110, 111, 112, 113, 114, 115, 116, 117, 118] (by decide +kernel) (by decide +kernel)
set_option maxRecDepth 20000 in
theorem gX5_fits_X5_finding : GoodIn wsX5_fits (wsV RX5 76 RX5 yX5_finding wsX5_finding) := goodIn_app (goodIn_of _ (by decide +kernel)) ggX5_fits_X5_finding
set_option maxRecDepth 20000 in
theorem ggX5_fits_X5_isPerson : GoodIn wsX5_fits wsX5_isPerson := goodIn_r _ [23, 24, 12, 13, 5, 14, 96, 97, 98, 99, 100, 101, 102, 103, 104, 105, 106, 107, 108, 109, 110, 111, 112, 113, 114, 115, 116, 117, 118] (by decide +kernel) (by decide +kernel)
set_option maxRecDepth 20000 in
theorem gX5_fits_X5_isPerson : GoodIn wsX5_fits (wsV RX5 143 RX5 yX5_isPerson wsX5_isPerson) := goodIn_app (goodIn_of _ (by decide +kernel)) ggX5_fits_X5_isPerson
set_option maxRecDepth 20000 in
theorem ggX5_fits_X5_fitting : GoodIn wsX5_fits wsX5_fitting := goodIn_r _ [28, 24, 29, 30, 31, 5, 32, 33, 34, 35, 36, 37, 38, 39, 40, 41, 42, 43, 44, 45, 46, 47, 48, 49, 50, 51, 52, 53, 54, 55, 56, 57, 58, 59, 60, 61, 62, 63, 64, 65, 66, 67, 68, 69, 70, 71, 72, 73, 74, 75, 76, 77, 78, 79, 80, 81, 82, 83, 84, 85, 86, 87, 88, 89, 90, 91, 92, 93, 94, 95, 96, 97, 98, 99, 100, 101, 102, 103, 104, 105, 106, 107, 108, 109, 110, 111, 112, 113, 114, 115, 116, 117, 118] (by decide +kernel) (by decide +kernel)
set_option maxRecDepth 20000 in
theorem gX5_fits_X5_fitting : GoodIn wsX5_fits (wsV RX5 234 RX5 yX5_fitting wsX5_fitting) := goodIn_app (goodIn_of _ (by decide +kernel)) ggX5_fits_X5_fitting
theorem dX5_fits_0 : decode cX5_fits 0 = .ok (.aload_n 0, 1) := by decide +kernel
theorem dX5_fits_1 : decode cX5_fits 1 = .ok (.iload_n 1, 1) := by decide +kernel
theorem dX5_fits_2 : decode cX5_fits 2 = .ok (.invokevirtual 231, 3) := by decide +kernel
theorem dX5_fits_5 : decode cX5_fits 5 = .ok (.ifCond .eq 13, 3) := by decide +kernel
theorem dX5_fits_8 : decode cX5_fits 8 = .ok (.aload_n 0, 1) := by decide +kernel
theorem dX5_fits_9 : decode cX5_fits 9 = .ok (.aload_n 0, 1) := by decide +kernel
theorem dX5_fits_10 : decode cX5_fits 10 = .ok (.iload_n 1, 1) := by decide +kernel
theorem dX5_fits_11 : decode cX5_fits 11 = .ok (.invokevirtual 231, 3) := by decide +kernel
theorem dX5_fits_14 : decode cX5_fits 14 = .ok (.invokevirtual 76, 3) := by decide +kernel
theorem dX5_fits_17 : decode cX5_fits 17 = .ok (.ireturn, 1) := by decide +kernel
theorem dX5_fits_18 : decode cX5_fits 18 = .ok (.aload_n 0, 1) := by decide +kernel
theorem dX5_fits_19 : decode cX5_fits 19 = .ok (.iload_n 2, 1) := by decide +kernel
theorem dX5_fits_20 : decode cX5_fits 20 = .ok (.invokevirtual 143, 3) := by decide +kernel
theorem dX5_fits_23 : decode cX5_fits 23 = .ok (.ifCond .eq 15, 3) := by decide +kernel
theorem dX5_fits_26 : decode cX5_fits 26 = .ok (.aload_n 0, 1) := by decide +kernel
theorem dX5_fits_27 : decode cX5_fits 27 = .ok (.iload_n 1, 1) := by decide +kernel
theorem dX5_fits_28 : decode cX5_fits 28 = .ok (.iload_n 2, 1) := by decide +kernel
theorem dX5_fits_29 : decode cX5_fits 29 = .ok (.iconst 1, 1) := by decide +kernel
theorem dX5_fits_30 : decode cX5_fits 30 = .ok (.bipush 8, 2) := by decide +kernel
theorem dX5_fits_32 : decode cX5_fits 32 = .ok (.invokevirtual 234, 3) := by decide +kernel
theorem dX5_fits_35 : decode cX5_fits 35 = .ok (.goto 9, 3) := by decide +kernel
theorem dX5_fits_38 : decode cX5_fits 38 = .ok (.aload_n 0, 1) := by decide +kernel
theorem dX5_fits_39 : decode cX5_fits 39 = .ok (.ldc 70, 2) := by decide +kernel
theorem dX5_fits_41 : decode cX5_fits 41 = .ok (.invokevirtual 76, 3) := by decide +kernel
theorem dX5_fits_44 : decode cX5_fits 44 = .ok (.ireturn, 1) := by decide +kernel
set_option maxRecDepth 20000 in
theorem ggX5_kinds_X5_lacks : GoodIn wsX5_kinds wsX5_lacks := goodIn_r _ [6, 1, 7, 8, 9, 10, 5, 11, 12, 13, 14, 96, 97, 98, 99, 100, 101, 102, 103, 104, 105, 106, 107, 108, 109, 110, 111, 112, 113, 114, 115, 116, 117, 118] (by decide +kernel) (by decide +kernel)
set_option maxRecDepth 20000 in
theorem gX5_kinds_X5_lacks : GoodIn wsX5_kinds (wsV RX5 231 RX5 yX5_lacks wsX5_lacks) := goodIn_app (goodIn_of _ (by decide +kernel)) ggX5_kinds_X5_lacks
set_option maxRecDepth 20000 in
theorem ggX5_kinds_X5_finding : GoodIn wsX5_kinds wsX5_finding := goodIn_r _ [18, 19, 1, 96, 97, 98, 99, 100, 101, 102, 103, 104, 105, 106, 107, 108, 109, 110, 111, 112, 113, 114, 115, 116, 117, 118] (by decide +kernel) (by decide +kernel)
set_option maxRecDepth 20000 in
theorem gX5_kinds_X5_finding : GoodIn wsX5_kinds (wsV RX5 76 RX5 yX5_finding wsX5_finding) := goodIn_app (goodIn_of _ (by decide +kernel)) ggX5_kinds_X5_finding
set_option maxRecDepth 20000 in
theorem ggX5_kinds_X5_isPerson : GoodIn wsX5_kinds wsX5_isPerson := goodIn_r _ [23, 24, 12, 13, 5, 14, 96, 97, 98, 99, 100, 101, 102, 103, 104, 105, 106, 107, 108, 109, 110, 111, 112, 113, 114, 115, 116, 117, 118] (by decide +kernel) (by decide +kernel)
set_option maxRecDepth 20000 in
theorem gX5_kinds_X5_isPerson : GoodIn wsX5_kinds (wsV RX5 143 RX5 yX5_isPerson wsX5_isPerson) := goodIn_app (goodIn_of _ (by decide +kernel)) ggX5_kinds_X5_isPerson
set_option maxRecDepth 20000 in
theorem ggX5_kinds_X5_fitting : GoodIn wsX5_kinds wsX5_fitting := goodIn_r _ [28, 24, 29, 30, 31, 5, 32, 33, 34, 35, 36, 37, 38, 39, 40, 41, 42, 43, 44, 45, 46, 47, 48, 49, 50, 51, 52, 53, 54, 55, 56, 57, 58, 59, 60, 61, 62, 63, 64, 65, 66, 67, 68, 69, 70, 71, 72, 73, 74, 75, 76, 77, 78, 79, 80, 81, 82, 83, 84, 85, 86, 87, 88, 89, 90, 91, 92, 93, 94, 95, 96, 97, 98, 99, 100, 101, 102, 103, 104, 105, 106, 107, 108, 109, 110, 111, 112, 113, 114, 115, 116, 117, 118] (by decide +kernel) (by decide +kernel)
set_option maxRecDepth 20000 in
theorem gX5_kinds_X5_fitting : GoodIn wsX5_kinds (wsV RX5 234 RX5 yX5_fitting wsX5_fitting) := goodIn_app (goodIn_of _ (by decide +kernel)) ggX5_kinds_X5_fitting
theorem dX5_kinds_0 : decode cX5_kinds 0 = .ok (.aload_n 0, 1) := by decide +kernel
theorem dX5_kinds_1 : decode cX5_kinds 1 = .ok (.iload_n 1, 1) := by decide +kernel
theorem dX5_kinds_2 : decode cX5_kinds 2 = .ok (.invokevirtual 231, 3) := by decide +kernel
theorem dX5_kinds_5 : decode cX5_kinds 5 = .ok (.ifCond .eq 13, 3) := by decide +kernel
theorem dX5_kinds_8 : decode cX5_kinds 8 = .ok (.aload_n 0, 1) := by decide +kernel
theorem dX5_kinds_9 : decode cX5_kinds 9 = .ok (.aload_n 0, 1) := by decide +kernel
theorem dX5_kinds_10 : decode cX5_kinds 10 = .ok (.iload_n 1, 1) := by decide +kernel
theorem dX5_kinds_11 : decode cX5_kinds 11 = .ok (.invokevirtual 231, 3) := by decide +kernel
theorem dX5_kinds_14 : decode cX5_kinds 14 = .ok (.invokevirtual 76, 3) := by decide +kernel
theorem dX5_kinds_17 : decode cX5_kinds 17 = .ok (.ireturn, 1) := by decide +kernel
theorem dX5_kinds_18 : decode cX5_kinds 18 = .ok (.aload_n 0, 1) := by decide +kernel
theorem dX5_kinds_19 : decode cX5_kinds 19 = .ok (.iload_n 2, 1) := by decide +kernel
theorem dX5_kinds_20 : decode cX5_kinds 20 = .ok (.invokevirtual 143, 3) := by decide +kernel
theorem dX5_kinds_23 : decode cX5_kinds 23 = .ok (.ifCond .eq 15, 3) := by decide +kernel
theorem dX5_kinds_26 : decode cX5_kinds 26 = .ok (.aload_n 0, 1) := by decide +kernel
theorem dX5_kinds_27 : decode cX5_kinds 27 = .ok (.iload_n 1, 1) := by decide +kernel
theorem dX5_kinds_28 : decode cX5_kinds 28 = .ok (.iload_n 2, 1) := by decide +kernel
theorem dX5_kinds_29 : decode cX5_kinds 29 = .ok (.iconst 0, 1) := by decide +kernel
theorem dX5_kinds_30 : decode cX5_kinds 30 = .ok (.bipush 7, 2) := by decide +kernel
theorem dX5_kinds_32 : decode cX5_kinds 32 = .ok (.invokevirtual 234, 3) := by decide +kernel
theorem dX5_kinds_35 : decode cX5_kinds 35 = .ok (.goto 9, 3) := by decide +kernel
theorem dX5_kinds_38 : decode cX5_kinds 38 = .ok (.aload_n 0, 1) := by decide +kernel
theorem dX5_kinds_39 : decode cX5_kinds 39 = .ok (.ldc 70, 2) := by decide +kernel
theorem dX5_kinds_41 : decode cX5_kinds 41 = .ok (.invokevirtual 76, 3) := by decide +kernel
theorem dX5_kinds_44 : decode cX5_kinds 44 = .ok (.ireturn, 1) := by decide +kernel
theorem dX5_drawn_0 : decode cX5_drawn 0 = .ok (.aload_n 0, 1) := by decide +kernel
theorem dX5_drawn_1 : decode cX5_drawn 1 = .ok (.getfield 9, 3) := by decide +kernel
theorem dX5_drawn_4 : decode cX5_drawn 4 = .ok (.iconst 2, 1) := by decide +kernel
theorem dX5_drawn_5 : decode cX5_drawn 5 = .ok (.aload_n 0, 1) := by decide +kernel
theorem dX5_drawn_6 : decode cX5_drawn 6 = .ok (.getfield 9, 3) := by decide +kernel
theorem dX5_drawn_9 : decode cX5_drawn 9 = .ok (.iconst 2, 1) := by decide +kernel
theorem dX5_drawn_10 : decode cX5_drawn 10 = .ok (.iaload, 1) := by decide +kernel
theorem dX5_drawn_11 : decode cX5_drawn 11 = .ok (.ldc 237, 2) := by decide +kernel
theorem dX5_drawn_13 : decode cX5_drawn 13 = .ok (.imul, 1) := by decide +kernel
theorem dX5_drawn_14 : decode cX5_drawn 14 = .ok (.sipush 12345, 3) := by decide +kernel
theorem dX5_drawn_17 : decode cX5_drawn 17 = .ok (.iadd, 1) := by decide +kernel
theorem dX5_drawn_18 : decode cX5_drawn 18 = .ok (.iastore, 1) := by decide +kernel
theorem dX5_drawn_19 : decode cX5_drawn 19 = .ok (.aload_n 0, 1) := by decide +kernel
theorem dX5_drawn_20 : decode cX5_drawn 20 = .ok (.getfield 9, 3) := by decide +kernel
theorem dX5_drawn_23 : decode cX5_drawn 23 = .ok (.iconst 2, 1) := by decide +kernel
theorem dX5_drawn_24 : decode cX5_drawn 24 = .ok (.iaload, 1) := by decide +kernel
theorem dX5_drawn_25 : decode cX5_drawn 25 = .ok (.bipush 8, 2) := by decide +kernel
theorem dX5_drawn_27 : decode cX5_drawn 27 = .ok (.iushr, 1) := by decide +kernel
theorem dX5_drawn_28 : decode cX5_drawn 28 = .ok (.ireturn, 1) := by decide +kernel
set_option maxRecDepth 20000 in
theorem ggX5_weather_X5_within : GoodIn wsX5_weather wsX5_within := goodIn_r _ [8] (by decide +kernel) (by decide +kernel)
set_option maxRecDepth 20000 in
theorem gX5_weather_X5_within : GoodIn wsX5_weather (va_wsS RX5 80 yX5_within wsX5_within) := goodIn_app (goodIn_of _ (by decide +kernel)) ggX5_weather_X5_within
set_option maxRecDepth 20000 in
theorem ggX5_weather_X5_finding : GoodIn wsX5_weather wsX5_finding := goodIn_r _ [12, 13, 1, 79, 80, 81, 82, 83, 84, 85, 86, 87, 88, 89, 90, 91, 92, 93, 94, 95, 96, 97, 98, 99, 100, 101] (by decide +kernel) (by decide +kernel)
set_option maxRecDepth 20000 in
theorem gX5_weather_X5_finding : GoodIn wsX5_weather (wsV RX5 76 RX5 yX5_finding wsX5_finding) := goodIn_app (goodIn_of _ (by decide +kernel)) ggX5_weather_X5_finding
set_option maxRecDepth 20000 in
theorem ggX5_weather_X5_drawn : GoodIn wsX5_weather wsX5_drawn := goodIn_r _ [17, 2, 18, 79, 80, 81, 82, 83, 84, 85, 86, 87, 88, 89, 90, 91, 92, 93, 94, 95, 96, 97, 98, 99, 100, 101] (by decide +kernel) (by decide +kernel)
set_option maxRecDepth 20000 in
theorem gX5_weather_X5_drawn : GoodIn wsX5_weather (wsV RX5 238 RX5 yX5_drawn wsX5_drawn) := goodIn_app (goodIn_of _ (by decide +kernel)) ggX5_weather_X5_drawn
set_option maxRecDepth 20000 in
theorem ggX5_weather_X5_goes : GoodIn wsX5_weather wsX5_goes := goodIn_r _ [22, 2, 3, 23, 24, 25, 26, 27, 28, 29, 30, 31, 32, 7, 33, 34, 35, 36, 37, 38, 39, 40, 41, 42, 43, 44, 45, 46, 47, 48, 49, 50, 51, 52, 53, 54, 55, 56, 57, 58, 59, 60, 61, 62, 63, 64, 65, 66, 67, 68, 69, 70, 71, 72, 73, 74, 79, 80, 81, 82, 83, 84, 85, 86, 87, 88, 89, 90, 91, 92, 93, 94, 95, 96, 97, 98, 99, 100, 101] (by decide +kernel) (by decide +kernel)
set_option maxRecDepth 20000 in
theorem gX5_weather_X5_goes : GoodIn wsX5_weather (wsV RX5 156 RX5 yX5_goes wsX5_goes) := goodIn_app (goodIn_of _ (by decide +kernel)) ggX5_weather_X5_goes
set_option maxRecDepth 20000 in
theorem ggX5_weather_X5_goodsAll : GoodIn wsX5_weather wsX5_goodsAll := goodIn_r _ [78, 2, 38, 39, 40, 7, 41, 42, 43, 44, 79, 80, 81, 82, 83, 84, 85, 86, 87, 88, 89, 90, 91, 92, 93, 94, 95, 96, 97, 98, 99, 100, 101] (by decide +kernel) (by decide +kernel)
set_option maxRecDepth 20000 in
theorem gX5_weather_X5_goodsAll : GoodIn wsX5_weather (wsV RX5 164 RX5 yX5_goodsAll wsX5_goodsAll) := goodIn_app (goodIn_of _ (by decide +kernel)) ggX5_weather_X5_goodsAll
theorem dX5_weather_0 : decode cX5_weather 0 = .ok (.iload_n 1, 1) := by decide +kernel
theorem dX5_weather_1 : decode cX5_weather 1 = .ok (.iconst 1, 1) := by decide +kernel
theorem dX5_weather_2 : decode cX5_weather 2 = .ok (.bipush 20, 2) := by decide +kernel
theorem dX5_weather_4 : decode cX5_weather 4 = .ok (.invokestatic 80, 3) := by decide +kernel
theorem dX5_weather_7 : decode cX5_weather 7 = .ok (.ifCond .ne 10, 3) := by decide +kernel
theorem dX5_weather_10 : decode cX5_weather 10 = .ok (.aload_n 0, 1) := by decide +kernel
theorem dX5_weather_11 : decode cX5_weather 11 = .ok (.ldc 70, 2) := by decide +kernel
theorem dX5_weather_13 : decode cX5_weather 13 = .ok (.invokevirtual 76, 3) := by decide +kernel
theorem dX5_weather_16 : decode cX5_weather 16 = .ok (.ireturn, 1) := by decide +kernel
theorem dX5_weather_17 : decode cX5_weather 17 = .ok (.aload_n 0, 1) := by decide +kernel
theorem dX5_weather_18 : decode cX5_weather 18 = .ok (.getfield 9, 3) := by decide +kernel
theorem dX5_weather_21 : decode cX5_weather 21 = .ok (.iconst 0, 1) := by decide +kernel
theorem dX5_weather_22 : decode cX5_weather 22 = .ok (.iaload, 1) := by decide +kernel
theorem dX5_weather_23 : decode cX5_weather 23 = .ok (.iload_n 1, 1) := by decide +kernel
theorem dX5_weather_24 : decode cX5_weather 24 = .ok (.iadd, 1) := by decide +kernel
theorem dX5_weather_25 : decode cX5_weather 25 = .ok (.ldc 149, 2) := by decide +kernel
theorem dX5_weather_27 : decode cX5_weather 27 = .ok (.if_icmp .le 10, 3) := by decide +kernel
theorem dX5_weather_30 : decode cX5_weather 30 = .ok (.aload_n 0, 1) := by decide +kernel
theorem dX5_weather_31 : decode cX5_weather 31 = .ok (.ldc 159, 2) := by decide +kernel
theorem dX5_weather_33 : decode cX5_weather 33 = .ok (.invokevirtual 76, 3) := by decide +kernel
theorem dX5_weather_36 : decode cX5_weather 36 = .ok (.ireturn, 1) := by decide +kernel
theorem dX5_weather_37 : decode cX5_weather 37 = .ok (.iconst 0, 1) := by decide +kernel
theorem dX5_weather_38 : decode cX5_weather 38 = .ok (.istore_n 2, 1) := by decide +kernel
theorem dX5_weather_39 : decode cX5_weather 39 = .ok (.iload_n 2, 1) := by decide +kernel
theorem dX5_weather_40 : decode cX5_weather 40 = .ok (.iload_n 1, 1) := by decide +kernel
theorem dX5_weather_41 : decode cX5_weather 41 = .ok (.if_icmp .ge 37, 3) := by decide +kernel
theorem dX5_weather_44 : decode cX5_weather 44 = .ok (.aload_n 0, 1) := by decide +kernel
theorem dX5_weather_45 : decode cX5_weather 45 = .ok (.invokevirtual 238, 3) := by decide +kernel
theorem dX5_weather_48 : decode cX5_weather 48 = .ok (.bipush 8, 2) := by decide +kernel
theorem dX5_weather_50 : decode cX5_weather 50 = .ok (.irem, 1) := by decide +kernel
theorem dX5_weather_51 : decode cX5_weather 51 = .ok (.istore_n 3, 1) := by decide +kernel
theorem dX5_weather_52 : decode cX5_weather 52 = .ok (.aload_n 0, 1) := by decide +kernel
theorem dX5_weather_53 : decode cX5_weather 53 = .ok (.getfield 9, 3) := by decide +kernel
theorem dX5_weather_56 : decode cX5_weather 56 = .ok (.bipush 13, 2) := by decide +kernel
theorem dX5_weather_58 : decode cX5_weather 58 = .ok (.iload_n 3, 1) := by decide +kernel
theorem dX5_weather_59 : decode cX5_weather 59 = .ok (.iadd, 1) := by decide +kernel
theorem dX5_weather_60 : decode cX5_weather 60 = .ok (.aload_n 0, 1) := by decide +kernel
theorem dX5_weather_61 : decode cX5_weather 61 = .ok (.invokevirtual 238, 3) := by decide +kernel
theorem dX5_weather_64 : decode cX5_weather 64 = .ok (.bipush 100, 2) := by decide +kernel
theorem dX5_weather_66 : decode cX5_weather 66 = .ok (.irem, 1) := by decide +kernel
theorem dX5_weather_67 : decode cX5_weather 67 = .ok (.iastore, 1) := by decide +kernel
theorem dX5_weather_68 : decode cX5_weather 68 = .ok (.aload_n 0, 1) := by decide +kernel
theorem dX5_weather_69 : decode cX5_weather 69 = .ok (.invokevirtual 156, 3) := by decide +kernel
theorem dX5_weather_72 : decode cX5_weather 72 = .ok (.iinc 2 1, 3) := by decide +kernel
theorem dX5_weather_75 : decode cX5_weather 75 = .ok (.goto (-36), 3) := by decide +kernel
theorem dX5_weather_78 : decode cX5_weather 78 = .ok (.aload_n 0, 1) := by decide +kernel
theorem dX5_weather_79 : decode cX5_weather 79 = .ok (.invokevirtual 164, 3) := by decide +kernel
theorem dX5_weather_82 : decode cX5_weather 82 = .ok (.ireturn, 1) := by decide +kernel
set_option maxRecDepth 20000 in
theorem ggX5_odds_X5_within : GoodIn wsX5_odds wsX5_within := goodIn_r _ [5] (by decide +kernel) (by decide +kernel)
set_option maxRecDepth 20000 in
theorem gX5_odds_X5_within : GoodIn wsX5_odds (va_wsS RX5 80 yX5_within wsX5_within) := goodIn_app (goodIn_of _ (by decide +kernel)) ggX5_odds_X5_within
set_option maxRecDepth 20000 in
theorem ggX5_odds_X5_finding : GoodIn wsX5_odds wsX5_finding := goodIn_r _ [9, 10, 1, 65, 66, 67, 68, 69, 70, 71, 72, 73, 74, 75, 76, 77, 78, 79, 80, 81, 82, 83, 84, 85, 86, 87] (by decide +kernel) (by decide +kernel)
set_option maxRecDepth 20000 in
theorem gX5_odds_X5_finding : GoodIn wsX5_odds (wsV RX5 76 RX5 yX5_finding wsX5_finding) := goodIn_app (goodIn_of _ (by decide +kernel)) ggX5_odds_X5_finding
set_option maxRecDepth 20000 in
theorem ggX5_odds_X5_comePlaces : GoodIn wsX5_odds wsX5_comePlaces := goodIn_r _ [14, 15, 16, 17, 18, 19, 4, 20, 21, 22, 23, 24, 25, 26, 27, 28, 29, 30, 31, 32, 33, 34, 35, 36, 37, 38, 39, 40, 41, 42, 43, 44, 45, 46, 47, 48, 49, 50, 51, 52, 53, 54, 55, 56, 57, 58, 59, 60, 61, 62, 63, 64, 65, 66, 67, 68, 69, 70, 71, 72, 73, 74, 75, 76, 77, 78, 79, 80, 81, 82, 83, 84, 85, 86, 87] (by decide +kernel) (by decide +kernel)
set_option maxRecDepth 20000 in
theorem gX5_odds_X5_comePlaces : GoodIn wsX5_odds (wsV RX5 171 RX5 yX5_comePlaces wsX5_comePlaces) := goodIn_app (goodIn_of _ (by decide +kernel)) ggX5_odds_X5_comePlaces
set_option maxRecDepth 20000 in
theorem ggX5_odds_X5_bits : GoodIn wsX5_odds wsX5_bits := goodIn_r _ [48] (by decide +kernel) (by decide +kernel)
set_option maxRecDepth 20000 in
theorem gX5_odds_X5_bits : GoodIn wsX5_odds (va_wsS RX5 112 yX5_bits wsX5_bits) := goodIn_app (goodIn_of _ (by decide +kernel)) ggX5_odds_X5_bits
theorem dX5_odds_0 : decode cX5_odds 0 = .ok (.iload_n 1, 1) := by decide +kernel
theorem dX5_odds_1 : decode cX5_odds 1 = .ok (.iconst 0, 1) := by decide +kernel
theorem dX5_odds_2 : decode cX5_odds 2 = .ok (.bipush 20, 2) := by decide +kernel
theorem dX5_odds_4 : decode cX5_odds 4 = .ok (.invokestatic 80, 3) := by decide +kernel
theorem dX5_odds_7 : decode cX5_odds 7 = .ok (.ifCond .eq 12, 3) := by decide +kernel
theorem dX5_odds_10 : decode cX5_odds 10 = .ok (.iload_n 2, 1) := by decide +kernel
theorem dX5_odds_11 : decode cX5_odds 11 = .ok (.iconst 0, 1) := by decide +kernel
theorem dX5_odds_12 : decode cX5_odds 12 = .ok (.iconst 1, 1) := by decide +kernel
theorem dX5_odds_13 : decode cX5_odds 13 = .ok (.invokestatic 80, 3) := by decide +kernel
theorem dX5_odds_16 : decode cX5_odds 16 = .ok (.ifCond .ne 11, 3) := by decide +kernel
theorem dX5_odds_19 : decode cX5_odds 19 = .ok (.aload_n 0, 1) := by decide +kernel
theorem dX5_odds_20 : decode cX5_odds 20 = .ok (.ldc 70, 2) := by decide +kernel
theorem dX5_odds_22 : decode cX5_odds 22 = .ok (.invokevirtual 76, 3) := by decide +kernel
theorem dX5_odds_25 : decode cX5_odds 25 = .ok (.i2l, 1) := by decide +kernel
theorem dX5_odds_26 : decode cX5_odds 26 = .ok (.lreturn, 1) := by decide +kernel
theorem dX5_odds_27 : decode cX5_odds 27 = .ok (.bipush 8, 2) := by decide +kernel
theorem dX5_odds_29 : decode cX5_odds 29 = .ok (.aload_n 0, 1) := by decide +kernel
theorem dX5_odds_30 : decode cX5_odds 30 = .ok (.invokevirtual 171, 3) := by decide +kernel
theorem dX5_odds_33 : decode cX5_odds 33 = .ok (.invokestatic 112, 3) := by decide +kernel
theorem dX5_odds_36 : decode cX5_odds 36 = .ok (.isub, 1) := by decide +kernel
theorem dX5_odds_37 : decode cX5_odds 37 = .ok (.istore_n 3, 1) := by decide +kernel
theorem dX5_odds_38 : decode cX5_odds 38 = .ok (.bipush 8, 2) := by decide +kernel
theorem dX5_odds_40 : decode cX5_odds 40 = .ok (.istore 4, 2) := by decide +kernel
theorem dX5_odds_42 : decode cX5_odds 42 = .ok (.iload_n 3, 1) := by decide +kernel
theorem dX5_odds_43 : decode cX5_odds 43 = .ok (.istore 5, 2) := by decide +kernel
theorem dX5_odds_45 : decode cX5_odds 45 = .ok (.iload 5, 2) := by decide +kernel
theorem dX5_odds_47 : decode cX5_odds 47 = .ok (.ifCond .eq 21, 3) := by decide +kernel
theorem dX5_odds_50 : decode cX5_odds 50 = .ok (.iload 4, 2) := by decide +kernel
theorem dX5_odds_52 : decode cX5_odds 52 = .ok (.iload 5, 2) := by decide +kernel
theorem dX5_odds_54 : decode cX5_odds 54 = .ok (.irem, 1) := by decide +kernel
theorem dX5_odds_55 : decode cX5_odds 55 = .ok (.istore 6, 2) := by decide +kernel
theorem dX5_odds_57 : decode cX5_odds 57 = .ok (.iload 5, 2) := by decide +kernel
theorem dX5_odds_59 : decode cX5_odds 59 = .ok (.istore 4, 2) := by decide +kernel
theorem dX5_odds_61 : decode cX5_odds 61 = .ok (.iload 6, 2) := by decide +kernel
theorem dX5_odds_63 : decode cX5_odds 63 = .ok (.istore 5, 2) := by decide +kernel
theorem dX5_odds_65 : decode cX5_odds 65 = .ok (.goto (-20), 3) := by decide +kernel
theorem dX5_odds_68 : decode cX5_odds 68 = .ok (.lconst 1, 1) := by decide +kernel
theorem dX5_odds_69 : decode cX5_odds 69 = .ok (.lstore 6, 2) := by decide +kernel
theorem dX5_odds_71 : decode cX5_odds 71 = .ok (.iconst 0, 1) := by decide +kernel
theorem dX5_odds_72 : decode cX5_odds 72 = .ok (.istore 8, 2) := by decide +kernel
theorem dX5_odds_74 : decode cX5_odds 74 = .ok (.iload 8, 2) := by decide +kernel
theorem dX5_odds_76 : decode cX5_odds 76 = .ok (.iload_n 1, 1) := by decide +kernel
theorem dX5_odds_77 : decode cX5_odds 77 = .ok (.if_icmp .ge 28, 3) := by decide +kernel
theorem dX5_odds_80 : decode cX5_odds 80 = .ok (.lload 6, 2) := by decide +kernel
theorem dX5_odds_82 : decode cX5_odds 82 = .ok (.iload_n 2, 1) := by decide +kernel
theorem dX5_odds_83 : decode cX5_odds 83 = .ok (.ifCond .ne 7, 3) := by decide +kernel
theorem dX5_odds_86 : decode cX5_odds 86 = .ok (.iload_n 3, 1) := by decide +kernel
theorem dX5_odds_87 : decode cX5_odds 87 = .ok (.goto 5, 3) := by decide +kernel
theorem dX5_odds_90 : decode cX5_odds 90 = .ok (.bipush 8, 2) := by decide +kernel
theorem dX5_odds_92 : decode cX5_odds 92 = .ok (.iload 4, 2) := by decide +kernel
theorem dX5_odds_94 : decode cX5_odds 94 = .ok (.idiv, 1) := by decide +kernel
theorem dX5_odds_95 : decode cX5_odds 95 = .ok (.i2l, 1) := by decide +kernel
theorem dX5_odds_96 : decode cX5_odds 96 = .ok (.lmul, 1) := by decide +kernel
theorem dX5_odds_97 : decode cX5_odds 97 = .ok (.lstore 6, 2) := by decide +kernel
theorem dX5_odds_99 : decode cX5_odds 99 = .ok (.iinc 8 1, 3) := by decide +kernel
theorem dX5_odds_102 : decode cX5_odds 102 = .ok (.goto (-28), 3) := by decide +kernel
theorem dX5_odds_105 : decode cX5_odds 105 = .ok (.lload 6, 2) := by decide +kernel
theorem dX5_odds_107 : decode cX5_odds 107 = .ok (.lreturn, 1) := by decide +kernel
set_option maxRecDepth 20000 in
theorem ggX5_seed_X5_become : GoodIn wsX5_seed wsX5_become := goodIn_r _ [5, 6, 7, 8, 9, 10, 11, 12, 13, 14, 15, 16, 17, 18, 19, 20, 21, 22, 23, 24, 25, 26, 27, 28, 29] (by decide +kernel) (by decide +kernel)
set_option maxRecDepth 20000 in
theorem gX5_seed_X5_become : GoodIn wsX5_seed (wsV RX5 95 RX5 yX5_become wsX5_become) := goodIn_app (goodIn_of _ (by decide +kernel)) ggX5_seed_X5_become
theorem dX5_seed_0 : decode cX5_seed 0 = .ok (.aload_n 0, 1) := by decide +kernel
theorem dX5_seed_1 : decode cX5_seed 1 = .ok (.iconst 2, 1) := by decide +kernel
theorem dX5_seed_2 : decode cX5_seed 2 = .ok (.iload_n 1, 1) := by decide +kernel
theorem dX5_seed_3 : decode cX5_seed 3 = .ok (.invokevirtual 95, 3) := by decide +kernel
theorem dX5_seed_6 : decode cX5_seed 6 = .ok (.ireturn, 1) := by decide +kernel
set_option maxRecDepth 20000 in
theorem ggX5_feed_X5_within : GoodIn wsX5_feed wsX5_within := goodIn_r _ [8] (by decide +kernel) (by decide +kernel)
set_option maxRecDepth 20000 in
theorem gX5_feed_X5_within : GoodIn wsX5_feed (va_wsS RX5 80 yX5_within wsX5_within) := goodIn_app (goodIn_of _ (by decide +kernel)) ggX5_feed_X5_within
set_option maxRecDepth 20000 in
theorem ggX5_feed_X5_finding : GoodIn wsX5_feed wsX5_finding := goodIn_r _ [12, 13, 1, 14, 15, 16, 17, 18, 19, 20, 21, 22, 23, 24, 25, 26, 27, 28, 29, 30, 31, 32, 33, 34, 35, 36] (by decide +kernel) (by decide +kernel)
set_option maxRecDepth 20000 in
theorem gX5_feed_X5_finding : GoodIn wsX5_feed (wsV RX5 76 RX5 yX5_finding wsX5_finding) := goodIn_app (goodIn_of _ (by decide +kernel)) ggX5_feed_X5_finding
theorem dX5_feed_0 : decode cX5_feed 0 = .ok (.iload_n 2, 1) := by decide +kernel
theorem dX5_feed_1 : decode cX5_feed 1 = .ok (.iconst 1, 1) := by decide +kernel
theorem dX5_feed_2 : decode cX5_feed 2 = .ok (.iconst 4, 1) := by decide +kernel
theorem dX5_feed_3 : decode cX5_feed 3 = .ok (.invokestatic 80, 3) := by decide +kernel
theorem dX5_feed_6 : decode cX5_feed 6 = .ok (.ifCond .ne 10, 3) := by decide +kernel
theorem dX5_feed_9 : decode cX5_feed 9 = .ok (.aload_n 0, 1) := by decide +kernel
theorem dX5_feed_10 : decode cX5_feed 10 = .ok (.ldc 70, 2) := by decide +kernel
theorem dX5_feed_12 : decode cX5_feed 12 = .ok (.invokevirtual 76, 3) := by decide +kernel
theorem dX5_feed_15 : decode cX5_feed 15 = .ok (.ireturn, 1) := by decide +kernel
theorem dX5_feed_16 : decode cX5_feed 16 = .ok (.aload_n 0, 1) := by decide +kernel
theorem dX5_feed_17 : decode cX5_feed 17 = .ok (.getfield 241, 3) := by decide +kernel
theorem dX5_feed_20 : decode cX5_feed 20 = .ok (.iload_n 2, 1) := by decide +kernel
theorem dX5_feed_21 : decode cX5_feed 21 = .ok (.iadd, 1) := by decide +kernel
theorem dX5_feed_22 : decode cX5_feed 22 = .ok (.bipush 120, 2) := by decide +kernel
theorem dX5_feed_24 : decode cX5_feed 24 = .ok (.if_icmp .le 10, 3) := by decide +kernel
theorem dX5_feed_27 : decode cX5_feed 27 = .ok (.aload_n 0, 1) := by decide +kernel
theorem dX5_feed_28 : decode cX5_feed 28 = .ok (.ldc 101, 2) := by decide +kernel
theorem dX5_feed_30 : decode cX5_feed 30 = .ok (.invokevirtual 76, 3) := by decide +kernel
theorem dX5_feed_33 : decode cX5_feed 33 = .ok (.ireturn, 1) := by decide +kernel
theorem dX5_feed_34 : decode cX5_feed 34 = .ok (.iload_n 2, 1) := by decide +kernel
theorem dX5_feed_35 : decode cX5_feed 35 = .ok (.iconst 1, 1) := by decide +kernel
theorem dX5_feed_36 : decode cX5_feed 36 = .ok (.isub, 1) := by decide +kernel
theorem dX5_feed_37 : decode cX5_feed 37 = .ok (.istore_n 3, 1) := by decide +kernel
theorem dX5_feed_38 : decode cX5_feed 38 = .ok (.iload_n 3, 1) := by decide +kernel
theorem dX5_feed_39 : decode cX5_feed 39 = .ok (.ifCond .lt 38, 3) := by decide +kernel
theorem dX5_feed_42 : decode cX5_feed 42 = .ok (.aload_n 0, 1) := by decide +kernel
theorem dX5_feed_43 : decode cX5_feed 43 = .ok (.getfield 32, 3) := by decide +kernel
theorem dX5_feed_46 : decode cX5_feed 46 = .ok (.aload_n 0, 1) := by decide +kernel
theorem dX5_feed_47 : decode cX5_feed 47 = .ok (.getfield 241, 3) := by decide +kernel
theorem dX5_feed_50 : decode cX5_feed 50 = .ok (.iload_n 1, 1) := by decide +kernel
theorem dX5_feed_51 : decode cX5_feed 51 = .ok (.bipush 8, 2) := by decide +kernel
theorem dX5_feed_53 : decode cX5_feed 53 = .ok (.iload_n 3, 1) := by decide +kernel
theorem dX5_feed_54 : decode cX5_feed 54 = .ok (.imul, 1) := by decide +kernel
theorem dX5_feed_55 : decode cX5_feed 55 = .ok (.ishr, 1) := by decide +kernel
theorem dX5_feed_56 : decode cX5_feed 56 = .ok (.sipush 255, 3) := by decide +kernel
theorem dX5_feed_59 : decode cX5_feed 59 = .ok (.iand, 1) := by decide +kernel
theorem dX5_feed_60 : decode cX5_feed 60 = .ok (.iastore, 1) := by decide +kernel
theorem dX5_feed_61 : decode cX5_feed 61 = .ok (.aload_n 0, 1) := by decide +kernel
theorem dX5_feed_62 : decode cX5_feed 62 = .ok (.dup, 1) := by decide +kernel
theorem dX5_feed_63 : decode cX5_feed 63 = .ok (.getfield 241, 3) := by decide +kernel
theorem dX5_feed_66 : decode cX5_feed 66 = .ok (.iconst 1, 1) := by decide +kernel
theorem dX5_feed_67 : decode cX5_feed 67 = .ok (.iadd, 1) := by decide +kernel
theorem dX5_feed_68 : decode cX5_feed 68 = .ok (.putfield 241, 3) := by decide +kernel
theorem dX5_feed_71 : decode cX5_feed 71 = .ok (.iinc 3 (-1), 3) := by decide +kernel
theorem dX5_feed_74 : decode cX5_feed 74 = .ok (.goto (-36), 3) := by decide +kernel
theorem dX5_feed_77 : decode cX5_feed 77 = .ok (.aload_n 0, 1) := by decide +kernel
theorem dX5_feed_78 : decode cX5_feed 78 = .ok (.getfield 241, 3) := by decide +kernel
theorem dX5_feed_81 : decode cX5_feed 81 = .ok (.ireturn, 1) := by decide +kernel
theorem dX5_wipe_0 : decode cX5_wipe 0 = .ok (.aload_n 0, 1) := by decide +kernel
theorem dX5_wipe_1 : decode cX5_wipe 1 = .ok (.getfield 241, 3) := by decide +kernel
theorem dX5_wipe_4 : decode cX5_wipe 4 = .ok (.istore_n 1, 1) := by decide +kernel
theorem dX5_wipe_5 : decode cX5_wipe 5 = .ok (.aload_n 0, 1) := by decide +kernel
theorem dX5_wipe_6 : decode cX5_wipe 6 = .ok (.iconst 0, 1) := by decide +kernel
theorem dX5_wipe_7 : decode cX5_wipe 7 = .ok (.putfield 241, 3) := by decide +kernel
theorem dX5_wipe_10 : decode cX5_wipe 10 = .ok (.iload_n 1, 1) := by decide +kernel
theorem dX5_wipe_11 : decode cX5_wipe 11 = .ok (.ireturn, 1) := by decide +kernel
theorem dX5_byteAt_0 : decode cX5_byteAt 0 = .ok (.iload_n 1, 1) := by decide +kernel
theorem dX5_byteAt_1 : decode cX5_byteAt 1 = .ok (.aload_n 0, 1) := by decide +kernel
theorem dX5_byteAt_2 : decode cX5_byteAt 2 = .ok (.getfield 241, 3) := by decide +kernel
theorem dX5_byteAt_5 : decode cX5_byteAt 5 = .ok (.if_icmp .ge 12, 3) := by decide +kernel
theorem dX5_byteAt_8 : decode cX5_byteAt 8 = .ok (.aload_n 0, 1) := by decide +kernel
theorem dX5_byteAt_9 : decode cX5_byteAt 9 = .ok (.getfield 32, 3) := by decide +kernel
theorem dX5_byteAt_12 : decode cX5_byteAt 12 = .ok (.iload_n 1, 1) := by decide +kernel
theorem dX5_byteAt_13 : decode cX5_byteAt 13 = .ok (.iaload, 1) := by decide +kernel
theorem dX5_byteAt_14 : decode cX5_byteAt 14 = .ok (.goto 4, 3) := by decide +kernel
theorem dX5_byteAt_17 : decode cX5_byteAt 17 = .ok (.iconst (-1), 1) := by decide +kernel
theorem dX5_byteAt_18 : decode cX5_byteAt 18 = .ok (.ireturn, 1) := by decide +kernel
set_option maxRecDepth 20000 in
theorem ggX5_next_X5_byteAt : GoodIn wsX5_next wsX5_byteAt := goodIn_r _ [13, 14, 15, 19, 20, 21, 22, 23, 24, 25, 26, 27, 28, 29, 30, 31, 32, 33, 34, 35, 36, 37, 38, 39, 40, 41] (by decide +kernel) (by decide +kernel)
set_option maxRecDepth 20000 in
theorem gX5_next_X5_byteAt : GoodIn wsX5_next (wsV RX5 250 RX5 yX5_byteAt wsX5_byteAt) := goodIn_app (goodIn_of _ (by decide +kernel)) ggX5_next_X5_byteAt
set_option maxRecDepth 20000 in
theorem ggX5_next_X5_within : GoodIn wsX5_next wsX5_within := goodIn_r _ [18] (by decide +kernel) (by decide +kernel)
set_option maxRecDepth 20000 in
theorem gX5_next_X5_within : GoodIn wsX5_next (va_wsS RX5 80 yX5_within wsX5_within) := goodIn_app (goodIn_of _ (by decide +kernel)) ggX5_next_X5_within
theorem dX5_next_0 : decode cX5_next 0 = .ok (.aload_n 0, 1) := by decide +kernel
theorem dX5_next_1 : decode cX5_next 1 = .ok (.aload_n 0, 1) := by decide +kernel
theorem dX5_next_2 : decode cX5_next 2 = .ok (.getfield 244, 3) := by decide +kernel
theorem dX5_next_5 : decode cX5_next 5 = .ok (.putfield 247, 3) := by decide +kernel
theorem dX5_next_8 : decode cX5_next 8 = .ok (.aload_n 0, 1) := by decide +kernel
theorem dX5_next_9 : decode cX5_next 9 = .ok (.aload_n 0, 1) := by decide +kernel
theorem dX5_next_10 : decode cX5_next 10 = .ok (.getfield 247, 3) := by decide +kernel
theorem dX5_next_13 : decode cX5_next 13 = .ok (.invokevirtual 250, 3) := by decide +kernel
theorem dX5_next_16 : decode cX5_next 16 = .ok (.bipush 32, 2) := by decide +kernel
theorem dX5_next_18 : decode cX5_next 18 = .ok (.if_icmp .ne 16, 3) := by decide +kernel
theorem dX5_next_21 : decode cX5_next 21 = .ok (.aload_n 0, 1) := by decide +kernel
theorem dX5_next_22 : decode cX5_next 22 = .ok (.dup, 1) := by decide +kernel
theorem dX5_next_23 : decode cX5_next 23 = .ok (.getfield 247, 3) := by decide +kernel
theorem dX5_next_26 : decode cX5_next 26 = .ok (.iconst 1, 1) := by decide +kernel
theorem dX5_next_27 : decode cX5_next 27 = .ok (.iadd, 1) := by decide +kernel
theorem dX5_next_28 : decode cX5_next 28 = .ok (.putfield 247, 3) := by decide +kernel
theorem dX5_next_31 : decode cX5_next 31 = .ok (.goto (-23), 3) := by decide +kernel
theorem dX5_next_34 : decode cX5_next 34 = .ok (.aload_n 0, 1) := by decide +kernel
theorem dX5_next_35 : decode cX5_next 35 = .ok (.aload_n 0, 1) := by decide +kernel
theorem dX5_next_36 : decode cX5_next 36 = .ok (.getfield 247, 3) := by decide +kernel
theorem dX5_next_39 : decode cX5_next 39 = .ok (.invokevirtual 250, 3) := by decide +kernel
theorem dX5_next_42 : decode cX5_next 42 = .ok (.istore_n 1, 1) := by decide +kernel
theorem dX5_next_43 : decode cX5_next 43 = .ok (.aload_n 0, 1) := by decide +kernel
theorem dX5_next_44 : decode cX5_next 44 = .ok (.aload_n 0, 1) := by decide +kernel
theorem dX5_next_45 : decode cX5_next 45 = .ok (.getfield 247, 3) := by decide +kernel
theorem dX5_next_48 : decode cX5_next 48 = .ok (.putfield 244, 3) := by decide +kernel
theorem dX5_next_51 : decode cX5_next 51 = .ok (.aload_n 0, 1) := by decide +kernel
theorem dX5_next_52 : decode cX5_next 52 = .ok (.iconst 0, 1) := by decide +kernel
theorem dX5_next_53 : decode cX5_next 53 = .ok (.putfield 253, 3) := by decide +kernel
theorem dX5_next_56 : decode cX5_next 56 = .ok (.iload_n 1, 1) := by decide +kernel
theorem dX5_next_57 : decode cX5_next 57 = .ok (.ifCond .ge 11, 3) := by decide +kernel
theorem dX5_next_60 : decode cX5_next 60 = .ok (.aload_n 0, 1) := by decide +kernel
theorem dX5_next_61 : decode cX5_next 61 = .ok (.iconst 0, 1) := by decide +kernel
theorem dX5_next_62 : decode cX5_next 62 = .ok (.putfield 256, 3) := by decide +kernel
theorem dX5_next_65 : decode cX5_next 65 = .ok (.goto 141, 3) := by decide +kernel
theorem dX5_next_68 : decode cX5_next 68 = .ok (.iload_n 1, 1) := by decide +kernel
theorem dX5_next_69 : decode cX5_next 69 = .ok (.bipush 97, 2) := by decide +kernel
theorem dX5_next_71 : decode cX5_next 71 = .ok (.bipush 122, 2) := by decide +kernel
theorem dX5_next_73 : decode cX5_next 73 = .ok (.invokestatic 80, 3) := by decide +kernel
theorem dX5_next_76 : decode cX5_next 76 = .ok (.ifCond .eq 39, 3) := by decide +kernel
theorem dX5_next_79 : decode cX5_next 79 = .ok (.aload_n 0, 1) := by decide +kernel
theorem dX5_next_80 : decode cX5_next 80 = .ok (.iconst 1, 1) := by decide +kernel
theorem dX5_next_81 : decode cX5_next 81 = .ok (.putfield 256, 3) := by decide +kernel
theorem dX5_next_84 : decode cX5_next 84 = .ok (.aload_n 0, 1) := by decide +kernel
theorem dX5_next_85 : decode cX5_next 85 = .ok (.aload_n 0, 1) := by decide +kernel
theorem dX5_next_86 : decode cX5_next 86 = .ok (.getfield 244, 3) := by decide +kernel
theorem dX5_next_89 : decode cX5_next 89 = .ok (.invokevirtual 250, 3) := by decide +kernel
theorem dX5_next_92 : decode cX5_next 92 = .ok (.bipush 97, 2) := by decide +kernel
theorem dX5_next_94 : decode cX5_next 94 = .ok (.bipush 122, 2) := by decide +kernel
theorem dX5_next_96 : decode cX5_next 96 = .ok (.invokestatic 80, 3) := by decide +kernel
theorem dX5_next_99 : decode cX5_next 99 = .ok (.ifCond .eq 107, 3) := by decide +kernel
theorem dX5_next_102 : decode cX5_next 102 = .ok (.aload_n 0, 1) := by decide +kernel
theorem dX5_next_103 : decode cX5_next 103 = .ok (.dup, 1) := by decide +kernel
theorem dX5_next_104 : decode cX5_next 104 = .ok (.getfield 244, 3) := by decide +kernel
theorem dX5_next_107 : decode cX5_next 107 = .ok (.iconst 1, 1) := by decide +kernel
theorem dX5_next_108 : decode cX5_next 108 = .ok (.iadd, 1) := by decide +kernel
theorem dX5_next_109 : decode cX5_next 109 = .ok (.putfield 244, 3) := by decide +kernel
theorem dX5_next_112 : decode cX5_next 112 = .ok (.goto (-28), 3) := by decide +kernel
theorem dX5_next_115 : decode cX5_next 115 = .ok (.iload_n 1, 1) := by decide +kernel
theorem dX5_next_116 : decode cX5_next 116 = .ok (.bipush 48, 2) := by decide +kernel
theorem dX5_next_118 : decode cX5_next 118 = .ok (.bipush 57, 2) := by decide +kernel
theorem dX5_next_120 : decode cX5_next 120 = .ok (.invokestatic 80, 3) := by decide +kernel
theorem dX5_next_123 : decode cX5_next 123 = .ok (.ifCond .eq 68, 3) := by decide +kernel
theorem dX5_next_126 : decode cX5_next 126 = .ok (.aload_n 0, 1) := by decide +kernel
theorem dX5_next_127 : decode cX5_next 127 = .ok (.iconst 2, 1) := by decide +kernel
theorem dX5_next_128 : decode cX5_next 128 = .ok (.putfield 256, 3) := by decide +kernel
theorem dX5_next_131 : decode cX5_next 131 = .ok (.aload_n 0, 1) := by decide +kernel
theorem dX5_next_132 : decode cX5_next 132 = .ok (.aload_n 0, 1) := by decide +kernel
theorem dX5_next_133 : decode cX5_next 133 = .ok (.getfield 244, 3) := by decide +kernel
theorem dX5_next_136 : decode cX5_next 136 = .ok (.invokevirtual 250, 3) := by decide +kernel
theorem dX5_next_139 : decode cX5_next 139 = .ok (.bipush 48, 2) := by decide +kernel
theorem dX5_next_141 : decode cX5_next 141 = .ok (.bipush 57, 2) := by decide +kernel
theorem dX5_next_143 : decode cX5_next 143 = .ok (.invokestatic 80, 3) := by decide +kernel
theorem dX5_next_146 : decode cX5_next 146 = .ok (.ifCond .eq 60, 3) := by decide +kernel
theorem dX5_next_149 : decode cX5_next 149 = .ok (.aload_n 0, 1) := by decide +kernel
theorem dX5_next_150 : decode cX5_next 150 = .ok (.sipush 10000, 3) := by decide +kernel
theorem dX5_next_153 : decode cX5_next 153 = .ok (.bipush 10, 2) := by decide +kernel
theorem dX5_next_155 : decode cX5_next 155 = .ok (.aload_n 0, 1) := by decide +kernel
theorem dX5_next_156 : decode cX5_next 156 = .ok (.getfield 253, 3) := by decide +kernel
theorem dX5_next_159 : decode cX5_next 159 = .ok (.imul, 1) := by decide +kernel
theorem dX5_next_160 : decode cX5_next 160 = .ok (.aload_n 0, 1) := by decide +kernel
theorem dX5_next_161 : decode cX5_next 161 = .ok (.aload_n 0, 1) := by decide +kernel
theorem dX5_next_162 : decode cX5_next 162 = .ok (.getfield 244, 3) := by decide +kernel
theorem dX5_next_165 : decode cX5_next 165 = .ok (.invokevirtual 250, 3) := by decide +kernel
theorem dX5_next_168 : decode cX5_next 168 = .ok (.iadd, 1) := by decide +kernel
theorem dX5_next_169 : decode cX5_next 169 = .ok (.bipush 48, 2) := by decide +kernel
theorem dX5_next_171 : decode cX5_next 171 = .ok (.isub, 1) := by decide +kernel
theorem dX5_next_172 : decode cX5_next 172 = .ok (.invokestatic 153, 3) := by decide +kernel
theorem dX5_next_175 : decode cX5_next 175 = .ok (.putfield 253, 3) := by decide +kernel
theorem dX5_next_178 : decode cX5_next 178 = .ok (.aload_n 0, 1) := by decide +kernel
theorem dX5_next_179 : decode cX5_next 179 = .ok (.dup, 1) := by decide +kernel
theorem dX5_next_180 : decode cX5_next 180 = .ok (.getfield 244, 3) := by decide +kernel
theorem dX5_next_183 : decode cX5_next 183 = .ok (.iconst 1, 1) := by decide +kernel
theorem dX5_next_184 : decode cX5_next 184 = .ok (.iadd, 1) := by decide +kernel
theorem dX5_next_185 : decode cX5_next 185 = .ok (.putfield 244, 3) := by decide +kernel
theorem dX5_next_188 : decode cX5_next 188 = .ok (.goto (-57), 3) := by decide +kernel
theorem dX5_next_191 : decode cX5_next 191 = .ok (.aload_n 0, 1) := by decide +kernel
theorem dX5_next_192 : decode cX5_next 192 = .ok (.iconst 3, 1) := by decide +kernel
theorem dX5_next_193 : decode cX5_next 193 = .ok (.putfield 256, 3) := by decide +kernel
theorem dX5_next_196 : decode cX5_next 196 = .ok (.aload_n 0, 1) := by decide +kernel
theorem dX5_next_197 : decode cX5_next 197 = .ok (.dup, 1) := by decide +kernel
theorem dX5_next_198 : decode cX5_next 198 = .ok (.getfield 244, 3) := by decide +kernel
theorem dX5_next_201 : decode cX5_next 201 = .ok (.iconst 1, 1) := by decide +kernel
theorem dX5_next_202 : decode cX5_next 202 = .ok (.iadd, 1) := by decide +kernel
theorem dX5_next_203 : decode cX5_next 203 = .ok (.putfield 244, 3) := by decide +kernel
theorem dX5_next_206 : decode cX5_next 206 = .ok (.return_, 1) := by decide +kernel
set_option maxRecDepth 20000 in
theorem ggX5_isWord_J0_length_8abf5 : GoodIn wsX5_isWord wsJ0_length_8abf5 := goodIn_r _ [9, 10, 11, 12, 13, 8, 14, 15, 16] (by decide +kernel) (by decide +kernel)
set_option maxRecDepth 20000 in
theorem gX5_isWord_J0_length_8abf5 : GoodIn wsX5_isWord (wsV RX5 259 RJ0 yJ0_length_8abf5 wsJ0_length_8abf5) := goodIn_app (goodIn_of _ (by decide +kernel)) ggX5_isWord_J0_length_8abf5
set_option maxRecDepth 20000 in
theorem ggX5_isWord_J0_charAt_5068e : GoodIn wsX5_isWord wsJ0_charAt_5068e := goodIn_r _ [20, 10, 21, 22, 23, 8, 24, 15, 16, 25, 26, 27, 28, 29, 30, 31, 32, 33, 34, 35, 36, 37, 38, 39, 40, 41, 42, 43, 44, 45, 46, 47, 48, 49, 50, 51, 52, 53] (by decide +kernel) (by decide +kernel)
set_option maxRecDepth 20000 in
theorem gX5_isWord_J0_charAt_5068e : GoodIn wsX5_isWord (wsV RX5 262 RJ0 yJ0_charAt_5068e wsJ0_charAt_5068e) := goodIn_app (goodIn_of _ (by decide +kernel)) ggX5_isWord_J0_charAt_5068e
theorem dX5_isWord_0 : decode cX5_isWord 0 = .ok (.aload_n 0, 1) := by decide +kernel
theorem dX5_isWord_1 : decode cX5_isWord 1 = .ok (.getfield 256, 3) := by decide +kernel
theorem dX5_isWord_4 : decode cX5_isWord 4 = .ok (.iconst 1, 1) := by decide +kernel
theorem dX5_isWord_5 : decode cX5_isWord 5 = .ok (.if_icmp .ne 23, 3) := by decide +kernel
theorem dX5_isWord_8 : decode cX5_isWord 8 = .ok (.aload_n 0, 1) := by decide +kernel
theorem dX5_isWord_9 : decode cX5_isWord 9 = .ok (.getfield 244, 3) := by decide +kernel
theorem dX5_isWord_12 : decode cX5_isWord 12 = .ok (.aload_n 0, 1) := by decide +kernel
theorem dX5_isWord_13 : decode cX5_isWord 13 = .ok (.getfield 247, 3) := by decide +kernel
theorem dX5_isWord_16 : decode cX5_isWord 16 = .ok (.isub, 1) := by decide +kernel
theorem dX5_isWord_17 : decode cX5_isWord 17 = .ok (.aload_n 1, 1) := by decide +kernel
theorem dX5_isWord_18 : decode cX5_isWord 18 = .ok (.invokevirtual 259, 3) := by decide +kernel
theorem dX5_isWord_21 : decode cX5_isWord 21 = .ok (.if_icmp .ne 7, 3) := by decide +kernel
theorem dX5_isWord_24 : decode cX5_isWord 24 = .ok (.iconst 1, 1) := by decide +kernel
theorem dX5_isWord_25 : decode cX5_isWord 25 = .ok (.goto 4, 3) := by decide +kernel
theorem dX5_isWord_28 : decode cX5_isWord 28 = .ok (.iconst 0, 1) := by decide +kernel
theorem dX5_isWord_29 : decode cX5_isWord 29 = .ok (.istore_n 2, 1) := by decide +kernel
theorem dX5_isWord_30 : decode cX5_isWord 30 = .ok (.iconst 0, 1) := by decide +kernel
theorem dX5_isWord_31 : decode cX5_isWord 31 = .ok (.istore_n 3, 1) := by decide +kernel
theorem dX5_isWord_32 : decode cX5_isWord 32 = .ok (.iload_n 3, 1) := by decide +kernel
theorem dX5_isWord_33 : decode cX5_isWord 33 = .ok (.aload_n 1, 1) := by decide +kernel
theorem dX5_isWord_34 : decode cX5_isWord 34 = .ok (.invokevirtual 259, 3) := by decide +kernel
theorem dX5_isWord_37 : decode cX5_isWord 37 = .ok (.if_icmp .ge 38, 3) := by decide +kernel
theorem dX5_isWord_40 : decode cX5_isWord 40 = .ok (.iload_n 2, 1) := by decide +kernel
theorem dX5_isWord_41 : decode cX5_isWord 41 = .ok (.ifCond .eq 34, 3) := by decide +kernel
theorem dX5_isWord_44 : decode cX5_isWord 44 = .ok (.aload_n 0, 1) := by decide +kernel
theorem dX5_isWord_45 : decode cX5_isWord 45 = .ok (.getfield 32, 3) := by decide +kernel
theorem dX5_isWord_48 : decode cX5_isWord 48 = .ok (.aload_n 0, 1) := by decide +kernel
theorem dX5_isWord_49 : decode cX5_isWord 49 = .ok (.getfield 247, 3) := by decide +kernel
theorem dX5_isWord_52 : decode cX5_isWord 52 = .ok (.iload_n 3, 1) := by decide +kernel
theorem dX5_isWord_53 : decode cX5_isWord 53 = .ok (.iadd, 1) := by decide +kernel
theorem dX5_isWord_54 : decode cX5_isWord 54 = .ok (.iaload, 1) := by decide +kernel
theorem dX5_isWord_55 : decode cX5_isWord 55 = .ok (.aload_n 1, 1) := by decide +kernel
theorem dX5_isWord_56 : decode cX5_isWord 56 = .ok (.iload_n 3, 1) := by decide +kernel
theorem dX5_isWord_57 : decode cX5_isWord 57 = .ok (.invokevirtual 262, 3) := by decide +kernel
theorem dX5_isWord_60 : decode cX5_isWord 60 = .ok (.if_icmp .ne 7, 3) := by decide +kernel
theorem dX5_isWord_63 : decode cX5_isWord 63 = .ok (.iconst 1, 1) := by decide +kernel
theorem dX5_isWord_64 : decode cX5_isWord 64 = .ok (.goto 4, 3) := by decide +kernel
theorem dX5_isWord_67 : decode cX5_isWord 67 = .ok (.iconst 0, 1) := by decide +kernel
theorem dX5_isWord_68 : decode cX5_isWord 68 = .ok (.istore_n 2, 1) := by decide +kernel
theorem dX5_isWord_69 : decode cX5_isWord 69 = .ok (.iinc 3 1, 3) := by decide +kernel
theorem dX5_isWord_72 : decode cX5_isWord 72 = .ok (.goto (-40), 3) := by decide +kernel
theorem dX5_isWord_75 : decode cX5_isWord 75 = .ok (.iload_n 2, 1) := by decide +kernel
theorem dX5_isWord_76 : decode cX5_isWord 76 = .ok (.ireturn, 1) := by decide +kernel
set_option maxRecDepth 20000 in
theorem ggX5_must_X5_next : GoodIn wsX5_must wsX5_next := goodIn_r _ [6, 7, 8, 9, 10, 11, 12, 13, 14, 15, 16, 17, 5, 18, 19, 20, 21, 22, 23, 24, 25, 26, 27, 28, 29, 30, 31, 32, 33, 34, 35, 36, 37, 38, 39, 40, 41, 42, 43, 44, 45, 46] (by decide +kernel) (by decide +kernel)
set_option maxRecDepth 20000 in
theorem gX5_must_X5_next : GoodIn wsX5_must (wsV RX5 270 RX5 yX5_next wsX5_next) := goodIn_app (goodIn_of _ (by decide +kernel)) ggX5_must_X5_next
theorem dX5_must_0 : decode cX5_must 0 = .ok (.aload_n 0, 1) := by decide +kernel
theorem dX5_must_1 : decode cX5_must 1 = .ok (.aload_n 0, 1) := by decide +kernel
theorem dX5_must_2 : decode cX5_must 2 = .ok (.getfield 266, 3) := by decide +kernel
theorem dX5_must_5 : decode cX5_must 5 = .ok (.ifCond .ne 7, 3) := by decide +kernel
theorem dX5_must_8 : decode cX5_must 8 = .ok (.iload_n 1, 1) := by decide +kernel
theorem dX5_must_9 : decode cX5_must 9 = .ok (.ifCond .ne 7, 3) := by decide +kernel
theorem dX5_must_12 : decode cX5_must 12 = .ok (.iconst 1, 1) := by decide +kernel
theorem dX5_must_13 : decode cX5_must 13 = .ok (.goto 4, 3) := by decide +kernel
theorem dX5_must_16 : decode cX5_must 16 = .ok (.iconst 0, 1) := by decide +kernel
theorem dX5_must_17 : decode cX5_must 17 = .ok (.putfield 266, 3) := by decide +kernel
theorem dX5_must_20 : decode cX5_must 20 = .ok (.aload_n 0, 1) := by decide +kernel
theorem dX5_must_21 : decode cX5_must 21 = .ok (.getfield 266, 3) := by decide +kernel
theorem dX5_must_24 : decode cX5_must 24 = .ok (.ifCond .ne 7, 3) := by decide +kernel
theorem dX5_must_27 : decode cX5_must 27 = .ok (.aload_n 0, 1) := by decide +kernel
theorem dX5_must_28 : decode cX5_must 28 = .ok (.invokevirtual 270, 3) := by decide +kernel
theorem dX5_must_31 : decode cX5_must 31 = .ok (.return_, 1) := by decide +kernel
set_option maxRecDepth 20000 in
theorem ggX5_number_X5_within : GoodIn wsX5_number wsX5_within := goodIn_r _ [6] (by decide +kernel) (by decide +kernel)
set_option maxRecDepth 20000 in
theorem gX5_number_X5_within : GoodIn wsX5_number (va_wsS RX5 80 yX5_within wsX5_within) := goodIn_app (goodIn_of _ (by decide +kernel)) ggX5_number_X5_within
set_option maxRecDepth 20000 in
theorem ggX5_number_X5_must : GoodIn wsX5_number wsX5_must := goodIn_r _ [10, 11, 12, 13, 14, 5, 15, 16, 17, 1, 2, 18, 19, 20, 21, 22, 23, 24, 25, 26, 27, 3, 4, 6, 28, 29, 30, 31, 32, 33, 34, 35, 36, 37, 38, 39, 40, 41, 42, 43, 44, 45, 46, 47, 48, 49, 50] (by decide +kernel) (by decide +kernel)
set_option maxRecDepth 20000 in
theorem gX5_number_X5_must : GoodIn wsX5_number (wsV RX5 273 RX5 yX5_must wsX5_must) := goodIn_app (goodIn_of _ (by decide +kernel)) ggX5_number_X5_must
theorem dX5_number_0 : decode cX5_number 0 = .ok (.aload_n 0, 1) := by decide +kernel
theorem dX5_number_1 : decode cX5_number 1 = .ok (.getfield 253, 3) := by decide +kernel
theorem dX5_number_4 : decode cX5_number 4 = .ok (.istore_n 3, 1) := by decide +kernel
theorem dX5_number_5 : decode cX5_number 5 = .ok (.aload_n 0, 1) := by decide +kernel
theorem dX5_number_6 : decode cX5_number 6 = .ok (.aload_n 0, 1) := by decide +kernel
theorem dX5_number_7 : decode cX5_number 7 = .ok (.getfield 256, 3) := by decide +kernel
theorem dX5_number_10 : decode cX5_number 10 = .ok (.iconst 2, 1) := by decide +kernel
theorem dX5_number_11 : decode cX5_number 11 = .ok (.if_icmp .ne 16, 3) := by decide +kernel
theorem dX5_number_14 : decode cX5_number 14 = .ok (.iload_n 3, 1) := by decide +kernel
theorem dX5_number_15 : decode cX5_number 15 = .ok (.iload_n 1, 1) := by decide +kernel
theorem dX5_number_16 : decode cX5_number 16 = .ok (.iload_n 2, 1) := by decide +kernel
theorem dX5_number_17 : decode cX5_number 17 = .ok (.invokestatic 80, 3) := by decide +kernel
theorem dX5_number_20 : decode cX5_number 20 = .ok (.ifCond .eq 7, 3) := by decide +kernel
theorem dX5_number_23 : decode cX5_number 23 = .ok (.iconst 1, 1) := by decide +kernel
theorem dX5_number_24 : decode cX5_number 24 = .ok (.goto 4, 3) := by decide +kernel
theorem dX5_number_27 : decode cX5_number 27 = .ok (.iconst 0, 1) := by decide +kernel
theorem dX5_number_28 : decode cX5_number 28 = .ok (.invokevirtual 273, 3) := by decide +kernel
theorem dX5_number_31 : decode cX5_number 31 = .ok (.iload_n 3, 1) := by decide +kernel
theorem dX5_number_32 : decode cX5_number 32 = .ok (.ireturn, 1) := by decide +kernel
theorem dX5_addItem_0 : decode cX5_addItem 0 = .ok (.iconst 4, 1) := by decide +kernel
theorem dX5_addItem_1 : decode cX5_addItem 1 = .ok (.aload_n 0, 1) := by decide +kernel
theorem dX5_addItem_2 : decode cX5_addItem 2 = .ok (.getfield 277, 3) := by decide +kernel
theorem dX5_addItem_5 : decode cX5_addItem 5 = .ok (.imul, 1) := by decide +kernel
theorem dX5_addItem_6 : decode cX5_addItem 6 = .ok (.istore 5, 2) := by decide +kernel
theorem dX5_addItem_8 : decode cX5_addItem 8 = .ok (.aload_n 0, 1) := by decide +kernel
theorem dX5_addItem_9 : decode cX5_addItem 9 = .ok (.getfield 55, 3) := by decide +kernel
theorem dX5_addItem_12 : decode cX5_addItem 12 = .ok (.iload 5, 2) := by decide +kernel
theorem dX5_addItem_14 : decode cX5_addItem 14 = .ok (.iload_n 1, 1) := by decide +kernel
theorem dX5_addItem_15 : decode cX5_addItem 15 = .ok (.iastore, 1) := by decide +kernel
theorem dX5_addItem_16 : decode cX5_addItem 16 = .ok (.aload_n 0, 1) := by decide +kernel
theorem dX5_addItem_17 : decode cX5_addItem 17 = .ok (.getfield 55, 3) := by decide +kernel
theorem dX5_addItem_20 : decode cX5_addItem 20 = .ok (.iload 5, 2) := by decide +kernel
theorem dX5_addItem_22 : decode cX5_addItem 22 = .ok (.iconst 1, 1) := by decide +kernel
theorem dX5_addItem_23 : decode cX5_addItem 23 = .ok (.iadd, 1) := by decide +kernel
theorem dX5_addItem_24 : decode cX5_addItem 24 = .ok (.iload_n 2, 1) := by decide +kernel
theorem dX5_addItem_25 : decode cX5_addItem 25 = .ok (.iastore, 1) := by decide +kernel
theorem dX5_addItem_26 : decode cX5_addItem 26 = .ok (.aload_n 0, 1) := by decide +kernel
theorem dX5_addItem_27 : decode cX5_addItem 27 = .ok (.getfield 55, 3) := by decide +kernel
theorem dX5_addItem_30 : decode cX5_addItem 30 = .ok (.iload 5, 2) := by decide +kernel
theorem dX5_addItem_32 : decode cX5_addItem 32 = .ok (.iconst 2, 1) := by decide +kernel
theorem dX5_addItem_33 : decode cX5_addItem 33 = .ok (.iadd, 1) := by decide +kernel
theorem dX5_addItem_34 : decode cX5_addItem 34 = .ok (.iload_n 3, 1) := by decide +kernel
theorem dX5_addItem_35 : decode cX5_addItem 35 = .ok (.iastore, 1) := by decide +kernel
theorem dX5_addItem_36 : decode cX5_addItem 36 = .ok (.aload_n 0, 1) := by decide +kernel
theorem dX5_addItem_37 : decode cX5_addItem 37 = .ok (.getfield 55, 3) := by decide +kernel
theorem dX5_addItem_40 : decode cX5_addItem 40 = .ok (.iload 5, 2) := by decide +kernel
theorem dX5_addItem_42 : decode cX5_addItem 42 = .ok (.iconst 3, 1) := by decide +kernel
theorem dX5_addItem_43 : decode cX5_addItem 43 = .ok (.iadd, 1) := by decide +kernel
theorem dX5_addItem_44 : decode cX5_addItem 44 = .ok (.iload 4, 2) := by decide +kernel
theorem dX5_addItem_46 : decode cX5_addItem 46 = .ok (.iastore, 1) := by decide +kernel
theorem dX5_addItem_47 : decode cX5_addItem 47 = .ok (.aload_n 0, 1) := by decide +kernel
theorem dX5_addItem_48 : decode cX5_addItem 48 = .ok (.dup, 1) := by decide +kernel
theorem dX5_addItem_49 : decode cX5_addItem 49 = .ok (.getfield 277, 3) := by decide +kernel
theorem dX5_addItem_52 : decode cX5_addItem 52 = .ok (.iconst 1, 1) := by decide +kernel
theorem dX5_addItem_53 : decode cX5_addItem 53 = .ok (.iadd, 1) := by decide +kernel
theorem dX5_addItem_54 : decode cX5_addItem 54 = .ok (.putfield 277, 3) := by decide +kernel
theorem dX5_addItem_57 : decode cX5_addItem 57 = .ok (.return_, 1) := by decide +kernel
set_option maxRecDepth 20000 in
theorem ggX5_kindTold_X5_isWord : GoodIn wsX5_kindTold wsX5_isWord := goodIn_r _ [6, 7, 8, 9, 10, 11, 12, 13, 14, 15, 16, 17, 18, 19, 20, 21, 22, 23, 24, 25, 26, 27, 28, 29, 30, 31, 32, 33, 34, 35, 36, 37, 38, 39, 40, 41, 42, 43, 44, 45, 46, 47, 48, 49, 50, 51, 52, 53, 54, 55, 56, 57, 58, 59, 60, 61, 62, 63, 64, 65, 66, 67, 68, 69, 70, 71, 72, 73, 74, 75, 76, 77, 78, 79, 80, 81, 82] (by decide +kernel) (by decide +kernel)
set_option maxRecDepth 20000 in
theorem gX5_kindTold_X5_isWord : GoodIn wsX5_kindTold (wsV RX5 280 RX5 yX5_isWord wsX5_isWord) := goodIn_app (goodIn_of _ (by decide +kernel)) ggX5_kindTold_X5_isWord
theorem dX5_kindTold_0 : decode cX5_kindTold 0 = .ok (.iconst (-1), 1) := by decide +kernel
theorem dX5_kindTold_1 : decode cX5_kindTold 1 = .ok (.istore_n 1, 1) := by decide +kernel
theorem dX5_kindTold_2 : decode cX5_kindTold 2 = .ok (.iconst 0, 1) := by decide +kernel
theorem dX5_kindTold_3 : decode cX5_kindTold 3 = .ok (.istore_n 2, 1) := by decide +kernel
theorem dX5_kindTold_4 : decode cX5_kindTold 4 = .ok (.iload_n 2, 1) := by decide +kernel
theorem dX5_kindTold_5 : decode cX5_kindTold 5 = .ok (.aload_n 0, 1) := by decide +kernel
theorem dX5_kindTold_6 : decode cX5_kindTold 6 = .ok (.getfield 51, 3) := by decide +kernel
theorem dX5_kindTold_9 : decode cX5_kindTold 9 = .ok (.arraylength, 1) := by decide +kernel
theorem dX5_kindTold_10 : decode cX5_kindTold 10 = .ok (.if_icmp .ge 28, 3) := by decide +kernel
theorem dX5_kindTold_13 : decode cX5_kindTold 13 = .ok (.aload_n 0, 1) := by decide +kernel
theorem dX5_kindTold_14 : decode cX5_kindTold 14 = .ok (.aload_n 0, 1) := by decide +kernel
theorem dX5_kindTold_15 : decode cX5_kindTold 15 = .ok (.getfield 51, 3) := by decide +kernel
theorem dX5_kindTold_18 : decode cX5_kindTold 18 = .ok (.iload_n 2, 1) := by decide +kernel
theorem dX5_kindTold_19 : decode cX5_kindTold 19 = .ok (.aaload, 1) := by decide +kernel
theorem dX5_kindTold_20 : decode cX5_kindTold 20 = .ok (.invokevirtual 280, 3) := by decide +kernel
theorem dX5_kindTold_23 : decode cX5_kindTold 23 = .ok (.ifCond .eq 7, 3) := by decide +kernel
theorem dX5_kindTold_26 : decode cX5_kindTold 26 = .ok (.iload_n 2, 1) := by decide +kernel
theorem dX5_kindTold_27 : decode cX5_kindTold 27 = .ok (.goto 4, 3) := by decide +kernel
theorem dX5_kindTold_30 : decode cX5_kindTold 30 = .ok (.iload_n 1, 1) := by decide +kernel
theorem dX5_kindTold_31 : decode cX5_kindTold 31 = .ok (.istore_n 1, 1) := by decide +kernel
theorem dX5_kindTold_32 : decode cX5_kindTold 32 = .ok (.iinc 2 1, 3) := by decide +kernel
theorem dX5_kindTold_35 : decode cX5_kindTold 35 = .ok (.goto (-31), 3) := by decide +kernel
theorem dX5_kindTold_38 : decode cX5_kindTold 38 = .ok (.iload_n 1, 1) := by decide +kernel
theorem dX5_kindTold_39 : decode cX5_kindTold 39 = .ok (.ireturn, 1) := by decide +kernel
set_option maxRecDepth 20000 in
theorem ggX5_afterWord_X5_isWord : GoodIn wsX5_afterWord wsX5_isWord := goodIn_r _ [6, 7, 8, 9, 10, 11, 12, 13, 14, 15, 16, 17, 18, 19, 20, 21, 22, 23, 24, 25, 26, 27, 28, 29, 30, 31, 32, 33, 34, 35, 36, 37, 38, 39, 40, 41, 42, 43, 44, 45, 46, 47, 48, 49, 50, 51, 52, 53, 54, 55, 56, 57, 58, 59, 85, 86, 87, 88, 89, 90, 91, 92, 93, 94, 95, 96, 97, 98, 99, 100, 101, 102, 103, 104, 105, 106, 107] (by decide +kernel) (by decide +kernel)
set_option maxRecDepth 20000 in
theorem gX5_afterWord_X5_isWord : GoodIn wsX5_afterWord (wsV RX5 280 RX5 yX5_isWord wsX5_isWord) := goodIn_app (goodIn_of _ (by decide +kernel)) ggX5_afterWord_X5_isWord
set_option maxRecDepth 20000 in
theorem ggX5_afterWord_X5_must : GoodIn wsX5_afterWord wsX5_must := goodIn_r _ [63, 1, 64, 65, 66, 5, 67, 8, 9, 68, 7, 69, 70, 71, 72, 73, 74, 75, 76, 77, 10, 78, 79, 80, 85, 86, 87, 88, 89, 90, 91, 92, 93, 94, 95, 96, 97, 98, 99, 100, 101, 102, 103, 104, 105, 106, 107] (by decide +kernel) (by decide +kernel)
set_option maxRecDepth 20000 in
theorem gX5_afterWord_X5_must : GoodIn wsX5_afterWord (wsV RX5 273 RX5 yX5_must wsX5_must) := goodIn_app (goodIn_of _ (by decide +kernel)) ggX5_afterWord_X5_must
set_option maxRecDepth 20000 in
theorem ggX5_afterWord_X5_number : GoodIn wsX5_afterWord wsX5_number := goodIn_r _ [84, 68, 7, 78, 79, 5, 80, 60, 61, 62, 63, 1, 64, 65, 66, 67, 8, 9, 69, 70, 71, 72, 73, 74, 75, 76, 77, 10, 85, 86, 87, 88, 89, 90, 91, 92, 93, 94, 95, 96, 97, 98, 99, 100, 101, 102, 103, 104, 105, 106, 107] (by decide +kernel) (by decide +kernel)
set_option maxRecDepth 20000 in
theorem gX5_afterWord_X5_number : GoodIn wsX5_afterWord (wsV RX5 284 RX5 yX5_number wsX5_number) := goodIn_app (goodIn_of _ (by decide +kernel)) ggX5_afterWord_X5_number
theorem dX5_afterWord_0 : decode cX5_afterWord 0 = .ok (.aload_n 0, 1) := by decide +kernel
theorem dX5_afterWord_1 : decode cX5_afterWord 1 = .ok (.getfield 266, 3) := by decide +kernel
theorem dX5_afterWord_4 : decode cX5_afterWord 4 = .ok (.ifCond .ne 11, 3) := by decide +kernel
theorem dX5_afterWord_7 : decode cX5_afterWord 7 = .ok (.aload_n 0, 1) := by decide +kernel
theorem dX5_afterWord_8 : decode cX5_afterWord 8 = .ok (.aload_n 1, 1) := by decide +kernel
theorem dX5_afterWord_9 : decode cX5_afterWord 9 = .ok (.invokevirtual 280, 3) := by decide +kernel
theorem dX5_afterWord_12 : decode cX5_afterWord 12 = .ok (.ifCond .ne 5, 3) := by decide +kernel
theorem dX5_afterWord_15 : decode cX5_afterWord 15 = .ok (.iload_n 3, 1) := by decide +kernel
theorem dX5_afterWord_16 : decode cX5_afterWord 16 = .ok (.ireturn, 1) := by decide +kernel
theorem dX5_afterWord_17 : decode cX5_afterWord 17 = .ok (.aload_n 0, 1) := by decide +kernel
theorem dX5_afterWord_18 : decode cX5_afterWord 18 = .ok (.iconst 1, 1) := by decide +kernel
theorem dX5_afterWord_19 : decode cX5_afterWord 19 = .ok (.invokevirtual 273, 3) := by decide +kernel
theorem dX5_afterWord_22 : decode cX5_afterWord 22 = .ok (.aload_n 0, 1) := by decide +kernel
theorem dX5_afterWord_23 : decode cX5_afterWord 23 = .ok (.iconst 0, 1) := by decide +kernel
theorem dX5_afterWord_24 : decode cX5_afterWord 24 = .ok (.iload_n 2, 1) := by decide +kernel
theorem dX5_afterWord_25 : decode cX5_afterWord 25 = .ok (.invokevirtual 284, 3) := by decide +kernel
theorem dX5_afterWord_28 : decode cX5_afterWord 28 = .ok (.ireturn, 1) := by decide +kernel
set_option maxRecDepth 20000 in
theorem ggX5_readItem_X5_kindTold : GoodIn wsX5_readItem wsX5_kindTold := goodIn_r _ [6, 7, 8, 9, 10, 5, 11, 12, 13, 14, 15, 16, 17, 18, 19, 20, 21, 22, 23, 24, 25, 26, 27, 28, 29, 30, 31, 32, 33, 34, 35, 36, 37, 38, 39, 40, 41, 42, 43, 44, 45, 46, 47, 48, 49, 50, 51, 52, 53, 54, 55, 56, 57, 58, 59, 60, 61, 62, 63, 64, 101, 102, 103, 104, 105, 106, 107, 108, 109, 110, 111, 112, 113, 114, 115, 116, 117, 118, 119, 120, 121, 122, 123] (by decide +kernel) (by decide +kernel)
set_option maxRecDepth 20000 in
theorem gX5_readItem_X5_kindTold : GoodIn wsX5_readItem (wsV RX5 287 RX5 yX5_kindTold wsX5_kindTold) := goodIn_app (goodIn_of _ (by decide +kernel)) ggX5_readItem_X5_kindTold
set_option maxRecDepth 20000 in
theorem ggX5_readItem_X5_must : GoodIn wsX5_readItem wsX5_must := goodIn_r _ [68, 69, 70, 71, 72, 5, 73, 13, 14, 74, 12, 75, 76, 77, 78, 79, 80, 81, 82, 83, 15, 84, 85, 86, 101, 102, 103, 104, 105, 106, 107, 108, 109, 110, 111, 112, 113, 114, 115, 116, 117, 118, 119, 120, 121, 122, 123] (by decide +kernel) (by decide +kernel)
set_option maxRecDepth 20000 in
theorem gX5_readItem_X5_must : GoodIn wsX5_readItem (wsV RX5 273 RX5 yX5_must wsX5_must) := goodIn_app (goodIn_of _ (by decide +kernel)) ggX5_readItem_X5_must
set_option maxRecDepth 20000 in
theorem ggX5_readItem_X5_afterWord : GoodIn wsX5_readItem wsX5_afterWord := goodIn_r _ [90, 69, 8, 9, 10, 5, 11, 12, 13, 14, 15, 16, 17, 18, 19, 20, 21, 22, 23, 24, 25, 26, 27, 28, 29, 30, 31, 32, 33, 34, 35, 36, 37, 38, 39, 40, 41, 42, 43, 44, 45, 46, 47, 48, 49, 50, 51, 52, 53, 54, 55, 56, 57, 58, 59, 60, 61, 62, 63, 64, 65, 66, 67, 68, 70, 71, 72, 73, 74, 75, 76, 77, 78, 79, 80, 81, 82, 83, 84, 85, 86, 91, 92, 93, 94, 101, 102, 103, 104, 105, 106, 107, 108, 109, 110, 111, 112, 113, 114, 115, 116, 117, 118, 119, 120, 121, 122, 123] (by decide +kernel) (by decide +kernel)
set_option maxRecDepth 20000 in
theorem gX5_readItem_X5_afterWord : GoodIn wsX5_readItem (wsV RX5 294 RX5 yX5_afterWord wsX5_afterWord) := goodIn_app (goodIn_of _ (by decide +kernel)) ggX5_readItem_X5_afterWord
set_option maxRecDepth 20000 in
theorem ggX5_readItem_X5_addItem : GoodIn wsX5_readItem wsX5_addItem := goodIn_r _ [98, 99, 100, 101, 102, 103, 104, 105, 106, 107, 108, 109, 110, 111, 112, 113, 114, 115, 116, 117, 118, 119, 120, 121, 122, 123] (by decide +kernel) (by decide +kernel)
set_option maxRecDepth 20000 in
theorem gX5_readItem_X5_addItem : GoodIn wsX5_readItem (wsV RX5 302 RX5 yX5_addItem wsX5_addItem) := goodIn_app (goodIn_of _ (by decide +kernel)) ggX5_readItem_X5_addItem
set_option maxRecDepth 20000 in
theorem ggX5_readItem_X5_isWord : GoodIn wsX5_readItem wsX5_isWord := goodIn_r _ [11, 12, 13, 14, 15, 16, 17, 18, 19, 20, 21, 22, 23, 24, 25, 26, 27, 28, 29, 30, 31, 32, 33, 34, 35, 36, 37, 38, 39, 40, 41, 42, 43, 44, 45, 46, 47, 48, 49, 50, 51, 52, 53, 54, 55, 56, 57, 58, 59, 60, 61, 62, 63, 64, 101, 102, 103, 104, 105, 106, 107, 108, 109, 110, 111, 112, 113, 114, 115, 116, 117, 118, 119, 120, 121, 122, 123] (by decide +kernel) (by decide +kernel)
set_option maxRecDepth 20000 in
theorem gX5_readItem_X5_isWord : GoodIn wsX5_readItem (wsV RX5 280 RX5 yX5_isWord wsX5_isWord) := goodIn_app (goodIn_of _ (by decide +kernel)) ggX5_readItem_X5_isWord
set_option maxRecDepth 20000 in
theorem ggX5_readItem_X5_number : GoodIn wsX5_readItem wsX5_number := goodIn_r _ [94, 74, 12, 84, 85, 5, 86, 65, 66, 67, 68, 69, 70, 71, 72, 73, 13, 14, 75, 76, 77, 78, 79, 80, 81, 82, 83, 15, 101, 102, 103, 104, 105, 106, 107, 108, 109, 110, 111, 112, 113, 114, 115, 116, 117, 118, 119, 120, 121, 122, 123] (by decide +kernel) (by decide +kernel)
set_option maxRecDepth 20000 in
theorem gX5_readItem_X5_number : GoodIn wsX5_readItem (wsV RX5 284 RX5 yX5_number wsX5_number) := goodIn_app (goodIn_of _ (by decide +kernel)) ggX5_readItem_X5_number
theorem dX5_readItem_0 : decode cX5_readItem 0 = .ok (.aload_n 0, 1) := by decide +kernel
theorem dX5_readItem_1 : decode cX5_readItem 1 = .ok (.invokevirtual 287, 3) := by decide +kernel
theorem dX5_readItem_4 : decode cX5_readItem 4 = .ok (.istore_n 1, 1) := by decide +kernel
theorem dX5_readItem_5 : decode cX5_readItem 5 = .ok (.iload_n 1, 1) := by decide +kernel
theorem dX5_readItem_6 : decode cX5_readItem 6 = .ok (.ifCond .lt 77, 3) := by decide +kernel
theorem dX5_readItem_9 : decode cX5_readItem 9 = .ok (.aload_n 0, 1) := by decide +kernel
theorem dX5_readItem_10 : decode cX5_readItem 10 = .ok (.aload_n 0, 1) := by decide +kernel
theorem dX5_readItem_11 : decode cX5_readItem 11 = .ok (.getfield 290, 3) := by decide +kernel
theorem dX5_readItem_14 : decode cX5_readItem 14 = .ok (.bipush 8, 2) := by decide +kernel
theorem dX5_readItem_16 : decode cX5_readItem 16 = .ok (.if_icmp .ge 7, 3) := by decide +kernel
theorem dX5_readItem_19 : decode cX5_readItem 19 = .ok (.iconst 1, 1) := by decide +kernel
theorem dX5_readItem_20 : decode cX5_readItem 20 = .ok (.goto 4, 3) := by decide +kernel
theorem dX5_readItem_23 : decode cX5_readItem 23 = .ok (.iconst 0, 1) := by decide +kernel
theorem dX5_readItem_24 : decode cX5_readItem 24 = .ok (.invokevirtual 273, 3) := by decide +kernel
theorem dX5_readItem_27 : decode cX5_readItem 27 = .ok (.aload_n 0, 1) := by decide +kernel
theorem dX5_readItem_28 : decode cX5_readItem 28 = .ok (.ldc_w 293, 3) := by decide +kernel
theorem dX5_readItem_31 : decode cX5_readItem 31 = .ok (.bipush 7, 2) := by decide +kernel
theorem dX5_readItem_33 : decode cX5_readItem 33 = .ok (.iconst 0, 1) := by decide +kernel
theorem dX5_readItem_34 : decode cX5_readItem 34 = .ok (.invokevirtual 294, 3) := by decide +kernel
theorem dX5_readItem_37 : decode cX5_readItem 37 = .ok (.istore_n 2, 1) := by decide +kernel
theorem dX5_readItem_38 : decode cX5_readItem 38 = .ok (.aload_n 0, 1) := by decide +kernel
theorem dX5_readItem_39 : decode cX5_readItem 39 = .ok (.ldc_w 298, 3) := by decide +kernel
theorem dX5_readItem_42 : decode cX5_readItem 42 = .ok (.bipush 7, 2) := by decide +kernel
theorem dX5_readItem_44 : decode cX5_readItem 44 = .ok (.iconst 1, 1) := by decide +kernel
theorem dX5_readItem_45 : decode cX5_readItem 45 = .ok (.invokevirtual 294, 3) := by decide +kernel
theorem dX5_readItem_48 : decode cX5_readItem 48 = .ok (.istore_n 3, 1) := by decide +kernel
theorem dX5_readItem_49 : decode cX5_readItem 49 = .ok (.aload_n 0, 1) := by decide +kernel
theorem dX5_readItem_50 : decode cX5_readItem 50 = .ok (.iload_n 1, 1) := by decide +kernel
theorem dX5_readItem_51 : decode cX5_readItem 51 = .ok (.iload_n 2, 1) := by decide +kernel
theorem dX5_readItem_52 : decode cX5_readItem 52 = .ok (.iload_n 3, 1) := by decide +kernel
theorem dX5_readItem_53 : decode cX5_readItem 53 = .ok (.aload_n 0, 1) := by decide +kernel
theorem dX5_readItem_54 : decode cX5_readItem 54 = .ok (.ldc_w 300, 3) := by decide +kernel
theorem dX5_readItem_57 : decode cX5_readItem 57 = .ok (.aload_n 0, 1) := by decide +kernel
theorem dX5_readItem_58 : decode cX5_readItem 58 = .ok (.getfield 290, 3) := by decide +kernel
theorem dX5_readItem_61 : decode cX5_readItem 61 = .ok (.iconst 1, 1) := by decide +kernel
theorem dX5_readItem_62 : decode cX5_readItem 62 = .ok (.isub, 1) := by decide +kernel
theorem dX5_readItem_63 : decode cX5_readItem 63 = .ok (.iconst (-1), 1) := by decide +kernel
theorem dX5_readItem_64 : decode cX5_readItem 64 = .ok (.invokevirtual 294, 3) := by decide +kernel
theorem dX5_readItem_67 : decode cX5_readItem 67 = .ok (.invokevirtual 302, 3) := by decide +kernel
theorem dX5_readItem_70 : decode cX5_readItem 70 = .ok (.aload_n 0, 1) := by decide +kernel
theorem dX5_readItem_71 : decode cX5_readItem 71 = .ok (.dup, 1) := by decide +kernel
theorem dX5_readItem_72 : decode cX5_readItem 72 = .ok (.getfield 290, 3) := by decide +kernel
theorem dX5_readItem_75 : decode cX5_readItem 75 = .ok (.iconst 1, 1) := by decide +kernel
theorem dX5_readItem_76 : decode cX5_readItem 76 = .ok (.iadd, 1) := by decide +kernel
theorem dX5_readItem_77 : decode cX5_readItem 77 = .ok (.putfield 290, 3) := by decide +kernel
theorem dX5_readItem_80 : decode cX5_readItem 80 = .ok (.goto 38, 3) := by decide +kernel
theorem dX5_readItem_83 : decode cX5_readItem 83 = .ok (.aload_n 0, 1) := by decide +kernel
theorem dX5_readItem_84 : decode cX5_readItem 84 = .ok (.aload_n 0, 1) := by decide +kernel
theorem dX5_readItem_85 : decode cX5_readItem 85 = .ok (.ldc_w 306, 3) := by decide +kernel
theorem dX5_readItem_88 : decode cX5_readItem 88 = .ok (.invokevirtual 280, 3) := by decide +kernel
theorem dX5_readItem_91 : decode cX5_readItem 91 = .ok (.invokevirtual 273, 3) := by decide +kernel
theorem dX5_readItem_94 : decode cX5_readItem 94 = .ok (.aload_n 0, 1) := by decide +kernel
theorem dX5_readItem_95 : decode cX5_readItem 95 = .ok (.iconst 0, 1) := by decide +kernel
theorem dX5_readItem_96 : decode cX5_readItem 96 = .ok (.bipush 7, 2) := by decide +kernel
theorem dX5_readItem_98 : decode cX5_readItem 98 = .ok (.invokevirtual 284, 3) := by decide +kernel
theorem dX5_readItem_101 : decode cX5_readItem 101 = .ok (.istore_n 2, 1) := by decide +kernel
theorem dX5_readItem_102 : decode cX5_readItem 102 = .ok (.aload_n 0, 1) := by decide +kernel
theorem dX5_readItem_103 : decode cX5_readItem 103 = .ok (.bipush 10, 2) := by decide +kernel
theorem dX5_readItem_105 : decode cX5_readItem 105 = .ok (.iload_n 2, 1) := by decide +kernel
theorem dX5_readItem_106 : decode cX5_readItem 106 = .ok (.aload_n 0, 1) := by decide +kernel
theorem dX5_readItem_107 : decode cX5_readItem 107 = .ok (.iconst 0, 1) := by decide +kernel
theorem dX5_readItem_108 : decode cX5_readItem 108 = .ok (.sipush 9999, 3) := by decide +kernel
theorem dX5_readItem_111 : decode cX5_readItem 111 = .ok (.invokevirtual 284, 3) := by decide +kernel
theorem dX5_readItem_114 : decode cX5_readItem 114 = .ok (.iconst 0, 1) := by decide +kernel
theorem dX5_readItem_115 : decode cX5_readItem 115 = .ok (.invokevirtual 302, 3) := by decide +kernel
theorem dX5_readItem_118 : decode cX5_readItem 118 = .ok (.return_, 1) := by decide +kernel
set_option maxRecDepth 20000 in
theorem ggX5_isToldSo_X5_become : GoodIn wsX5_isToldSo wsX5_become := goodIn_r _ [6, 7, 15, 16, 17, 18, 19, 20, 21, 22, 23, 24, 25, 26, 27, 28, 29, 30, 31, 32, 33, 34, 35, 36, 37] (by decide +kernel) (by decide +kernel)
set_option maxRecDepth 20000 in
theorem gX5_isToldSo_X5_become : GoodIn wsX5_isToldSo (wsV RX5 95 RX5 yX5_become wsX5_become) := goodIn_app (goodIn_of _ (by decide +kernel)) ggX5_isToldSo_X5_become
set_option maxRecDepth 20000 in
theorem ggX5_isToldSo_X5_comes : GoodIn wsX5_isToldSo wsX5_comes := goodIn_r _ [11, 7, 12, 13, 5, 14, 15, 16, 17, 18, 19, 20, 21, 22, 23, 24, 25, 26, 27, 28, 29, 30, 31, 32, 33, 34, 35, 36, 37] (by decide +kernel) (by decide +kernel)
set_option maxRecDepth 20000 in
theorem gX5_isToldSo_X5_comes : GoodIn wsX5_isToldSo (wsV RX5 102 RX5 yX5_comes wsX5_comes) := goodIn_app (goodIn_of _ (by decide +kernel)) ggX5_isToldSo_X5_comes
theorem dX5_isToldSo_0 : decode cX5_isToldSo 0 = .ok (.aload_n 0, 1) := by decide +kernel
theorem dX5_isToldSo_1 : decode cX5_isToldSo 1 = .ok (.getfield 55, 3) := by decide +kernel
theorem dX5_isToldSo_4 : decode cX5_isToldSo 4 = .ok (.iload_n 1, 1) := by decide +kernel
theorem dX5_isToldSo_5 : decode cX5_isToldSo 5 = .ok (.iconst 1, 1) := by decide +kernel
theorem dX5_isToldSo_6 : decode cX5_isToldSo 6 = .ok (.iadd, 1) := by decide +kernel
theorem dX5_isToldSo_7 : decode cX5_isToldSo 7 = .ok (.iaload, 1) := by decide +kernel
theorem dX5_isToldSo_8 : decode cX5_isToldSo 8 = .ok (.istore_n 2, 1) := by decide +kernel
theorem dX5_isToldSo_9 : decode cX5_isToldSo 9 = .ok (.aload_n 0, 1) := by decide +kernel
theorem dX5_isToldSo_10 : decode cX5_isToldSo 10 = .ok (.getfield 55, 3) := by decide +kernel
theorem dX5_isToldSo_13 : decode cX5_isToldSo 13 = .ok (.iload_n 1, 1) := by decide +kernel
theorem dX5_isToldSo_14 : decode cX5_isToldSo 14 = .ok (.iconst 2, 1) := by decide +kernel
theorem dX5_isToldSo_15 : decode cX5_isToldSo 15 = .ok (.iadd, 1) := by decide +kernel
theorem dX5_isToldSo_16 : decode cX5_isToldSo 16 = .ok (.iaload, 1) := by decide +kernel
theorem dX5_isToldSo_17 : decode cX5_isToldSo 17 = .ok (.istore_n 3, 1) := by decide +kernel
theorem dX5_isToldSo_18 : decode cX5_isToldSo 18 = .ok (.aload_n 0, 1) := by decide +kernel
theorem dX5_isToldSo_19 : decode cX5_isToldSo 19 = .ok (.getfield 55, 3) := by decide +kernel
theorem dX5_isToldSo_22 : decode cX5_isToldSo 22 = .ok (.iload_n 1, 1) := by decide +kernel
theorem dX5_isToldSo_23 : decode cX5_isToldSo 23 = .ok (.iaload, 1) := by decide +kernel
theorem dX5_isToldSo_24 : decode cX5_isToldSo 24 = .ok (.bipush 10, 2) := by decide +kernel
theorem dX5_isToldSo_26 : decode cX5_isToldSo 26 = .ok (.if_icmp .ne 15, 3) := by decide +kernel
theorem dX5_isToldSo_29 : decode cX5_isToldSo 29 = .ok (.aload_n 0, 1) := by decide +kernel
theorem dX5_isToldSo_30 : decode cX5_isToldSo 30 = .ok (.bipush 13, 2) := by decide +kernel
theorem dX5_isToldSo_32 : decode cX5_isToldSo 32 = .ok (.iload_n 2, 1) := by decide +kernel
theorem dX5_isToldSo_33 : decode cX5_isToldSo 33 = .ok (.iadd, 1) := by decide +kernel
theorem dX5_isToldSo_34 : decode cX5_isToldSo 34 = .ok (.iload_n 3, 1) := by decide +kernel
theorem dX5_isToldSo_35 : decode cX5_isToldSo 35 = .ok (.invokevirtual 95, 3) := by decide +kernel
theorem dX5_isToldSo_38 : decode cX5_isToldSo 38 = .ok (.goto 23, 3) := by decide +kernel
theorem dX5_isToldSo_41 : decode cX5_isToldSo 41 = .ok (.aload_n 0, 1) := by decide +kernel
theorem dX5_isToldSo_42 : decode cX5_isToldSo 42 = .ok (.aload_n 0, 1) := by decide +kernel
theorem dX5_isToldSo_43 : decode cX5_isToldSo 43 = .ok (.getfield 55, 3) := by decide +kernel
theorem dX5_isToldSo_46 : decode cX5_isToldSo 46 = .ok (.iload_n 1, 1) := by decide +kernel
theorem dX5_isToldSo_47 : decode cX5_isToldSo 47 = .ok (.iaload, 1) := by decide +kernel
theorem dX5_isToldSo_48 : decode cX5_isToldSo 48 = .ok (.iload_n 2, 1) := by decide +kernel
theorem dX5_isToldSo_49 : decode cX5_isToldSo 49 = .ok (.iload_n 3, 1) := by decide +kernel
theorem dX5_isToldSo_50 : decode cX5_isToldSo 50 = .ok (.aload_n 0, 1) := by decide +kernel
theorem dX5_isToldSo_51 : decode cX5_isToldSo 51 = .ok (.getfield 55, 3) := by decide +kernel
theorem dX5_isToldSo_54 : decode cX5_isToldSo 54 = .ok (.iload_n 1, 1) := by decide +kernel
theorem dX5_isToldSo_55 : decode cX5_isToldSo 55 = .ok (.iconst 3, 1) := by decide +kernel
theorem dX5_isToldSo_56 : decode cX5_isToldSo 56 = .ok (.iadd, 1) := by decide +kernel
theorem dX5_isToldSo_57 : decode cX5_isToldSo 57 = .ok (.iaload, 1) := by decide +kernel
theorem dX5_isToldSo_58 : decode cX5_isToldSo 58 = .ok (.invokevirtual 102, 3) := by decide +kernel
theorem dX5_isToldSo_61 : decode cX5_isToldSo 61 = .ok (.ireturn, 1) := by decide +kernel
set_option maxRecDepth 20000 in
theorem ggX5_text_X5_next : GoodIn wsX5_text wsX5_next := goodIn_r _ [14, 1, 8, 15, 6, 16, 17, 18, 19, 20, 21, 22, 13, 23, 9, 7, 24, 25, 26, 121, 122, 123, 124, 125, 126, 127, 128, 129, 130, 131, 132, 133, 134, 135, 136, 137, 138, 139, 140, 141, 142, 143] (by decide +kernel) (by decide +kernel)
set_option maxRecDepth 20000 in
theorem gX5_text_X5_next : GoodIn wsX5_text (wsV RX5 270 RX5 yX5_next wsX5_next) := goodIn_app (goodIn_of _ (by decide +kernel)) ggX5_text_X5_next
set_option maxRecDepth 20000 in
theorem ggX5_text_X5_readItem : GoodIn wsX5_text wsX5_readItem := goodIn_r _ [30, 5, 31, 32, 33, 13, 34, 35, 36, 37, 38, 39, 6, 1, 8, 7, 40, 41, 42, 43, 44, 45, 46, 47, 48, 49, 50, 51, 52, 53, 54, 55, 56, 57, 58, 59, 60, 61, 62, 63, 64, 65, 66, 67, 68, 69, 70, 71, 72, 73, 74, 75, 76, 77, 78, 79, 80, 81, 82, 83, 84, 85, 86, 87, 88, 89, 90, 91, 92, 2, 10, 11, 12, 14, 15, 16, 17, 18, 19, 20, 21, 22, 23, 9, 24, 25, 26, 93, 94, 95, 96, 97, 98, 99, 100, 101, 102, 103, 104, 3, 105, 121, 122, 123, 124, 125, 126, 127, 128, 129, 130, 131, 132, 133, 134, 135, 136, 137, 138, 139, 140, 141, 142, 143] (by decide +kernel) (by decide +kernel)
set_option maxRecDepth 20000 in
theorem gX5_text_X5_readItem : GoodIn wsX5_text (wsV RX5 308 RX5 yX5_readItem wsX5_readItem) := goodIn_app (goodIn_of _ (by decide +kernel)) ggX5_text_X5_readItem
set_option maxRecDepth 20000 in
theorem ggX5_text_X5_must : GoodIn wsX5_text wsX5_must := goodIn_r _ [92, 2, 10, 11, 12, 13, 14, 1, 8, 15, 6, 16, 17, 18, 19, 20, 21, 22, 23, 9, 7, 24, 25, 26, 121, 122, 123, 124, 125, 126, 127, 128, 129, 130, 131, 132, 133, 134, 135, 136, 137, 138, 139, 140, 141, 142, 143] (by decide +kernel) (by decide +kernel)
set_option maxRecDepth 20000 in
theorem gX5_text_X5_must : GoodIn wsX5_text (wsV RX5 273 RX5 yX5_must wsX5_must) := goodIn_app (goodIn_of _ (by decide +kernel)) ggX5_text_X5_must
set_option maxRecDepth 20000 in
theorem ggX5_text_X5_isToldSo : GoodIn wsX5_text wsX5_isToldSo := goodIn_r _ [109, 105, 110, 111, 112, 13, 113, 4, 114, 115, 116, 117, 118, 119, 120, 121, 122, 123, 124, 125, 126, 127, 128, 129, 130, 131, 132, 133, 134, 135, 136, 137, 138, 139, 140, 141, 142, 143] (by decide +kernel) (by decide +kernel)
set_option maxRecDepth 20000 in
theorem gX5_text_X5_isToldSo : GoodIn wsX5_text (wsV RX5 311 RX5 yX5_isToldSo wsX5_isToldSo) := goodIn_app (goodIn_of _ (by decide +kernel)) ggX5_text_X5_isToldSo
theorem dX5_text_0 : decode cX5_text 0 = .ok (.aload_n 0, 1) := by decide +kernel
theorem dX5_text_1 : decode cX5_text 1 = .ok (.iconst 0, 1) := by decide +kernel
theorem dX5_text_2 : decode cX5_text 2 = .ok (.putfield 244, 3) := by decide +kernel
theorem dX5_text_5 : decode cX5_text 5 = .ok (.aload_n 0, 1) := by decide +kernel
theorem dX5_text_6 : decode cX5_text 6 = .ok (.iconst 0, 1) := by decide +kernel
theorem dX5_text_7 : decode cX5_text 7 = .ok (.putfield 266, 3) := by decide +kernel
theorem dX5_text_10 : decode cX5_text 10 = .ok (.aload_n 0, 1) := by decide +kernel
theorem dX5_text_11 : decode cX5_text 11 = .ok (.iconst 0, 1) := by decide +kernel
theorem dX5_text_12 : decode cX5_text 12 = .ok (.putfield 277, 3) := by decide +kernel
theorem dX5_text_15 : decode cX5_text 15 = .ok (.aload_n 0, 1) := by decide +kernel
theorem dX5_text_16 : decode cX5_text 16 = .ok (.aload_n 0, 1) := by decide +kernel
theorem dX5_text_17 : decode cX5_text 17 = .ok (.getfield 9, 3) := by decide +kernel
theorem dX5_text_20 : decode cX5_text 20 = .ok (.iconst 1, 1) := by decide +kernel
theorem dX5_text_21 : decode cX5_text 21 = .ok (.iaload, 1) := by decide +kernel
theorem dX5_text_22 : decode cX5_text 22 = .ok (.putfield 290, 3) := by decide +kernel
theorem dX5_text_25 : decode cX5_text 25 = .ok (.aload_n 0, 1) := by decide +kernel
theorem dX5_text_26 : decode cX5_text 26 = .ok (.invokevirtual 270, 3) := by decide +kernel
theorem dX5_text_29 : decode cX5_text 29 = .ok (.aload_n 0, 1) := by decide +kernel
theorem dX5_text_30 : decode cX5_text 30 = .ok (.invokevirtual 308, 3) := by decide +kernel
theorem dX5_text_33 : decode cX5_text 33 = .ok (.aload_n 0, 1) := by decide +kernel
theorem dX5_text_34 : decode cX5_text 34 = .ok (.getfield 266, 3) := by decide +kernel
theorem dX5_text_37 : decode cX5_text 37 = .ok (.ifCond .ne 37, 3) := by decide +kernel
theorem dX5_text_40 : decode cX5_text 40 = .ok (.aload_n 0, 1) := by decide +kernel
theorem dX5_text_41 : decode cX5_text 41 = .ok (.getfield 256, 3) := by decide +kernel
theorem dX5_text_44 : decode cX5_text 44 = .ok (.iconst 3, 1) := by decide +kernel
theorem dX5_text_45 : decode cX5_text 45 = .ok (.if_icmp .ne 29, 3) := by decide +kernel
theorem dX5_text_48 : decode cX5_text 48 = .ok (.aload_n 0, 1) := by decide +kernel
theorem dX5_text_49 : decode cX5_text 49 = .ok (.getfield 32, 3) := by decide +kernel
theorem dX5_text_52 : decode cX5_text 52 = .ok (.aload_n 0, 1) := by decide +kernel
theorem dX5_text_53 : decode cX5_text 53 = .ok (.getfield 247, 3) := by decide +kernel
theorem dX5_text_56 : decode cX5_text 56 = .ok (.iaload, 1) := by decide +kernel
theorem dX5_text_57 : decode cX5_text 57 = .ok (.bipush 59, 2) := by decide +kernel
theorem dX5_text_59 : decode cX5_text 59 = .ok (.if_icmp .ne 15, 3) := by decide +kernel
theorem dX5_text_62 : decode cX5_text 62 = .ok (.aload_n 0, 1) := by decide +kernel
theorem dX5_text_63 : decode cX5_text 63 = .ok (.iconst 1, 1) := by decide +kernel
theorem dX5_text_64 : decode cX5_text 64 = .ok (.invokevirtual 273, 3) := by decide +kernel
theorem dX5_text_67 : decode cX5_text 67 = .ok (.aload_n 0, 1) := by decide +kernel
theorem dX5_text_68 : decode cX5_text 68 = .ok (.invokevirtual 308, 3) := by decide +kernel
theorem dX5_text_71 : decode cX5_text 71 = .ok (.goto (-38), 3) := by decide +kernel
theorem dX5_text_74 : decode cX5_text 74 = .ok (.aload_n 0, 1) := by decide +kernel
theorem dX5_text_75 : decode cX5_text 75 = .ok (.aload_n 0, 1) := by decide +kernel
theorem dX5_text_76 : decode cX5_text 76 = .ok (.getfield 256, 3) := by decide +kernel
theorem dX5_text_79 : decode cX5_text 79 = .ok (.ifCond .ne 7, 3) := by decide +kernel
theorem dX5_text_82 : decode cX5_text 82 = .ok (.iconst 1, 1) := by decide +kernel
theorem dX5_text_83 : decode cX5_text 83 = .ok (.goto 4, 3) := by decide +kernel
theorem dX5_text_86 : decode cX5_text 86 = .ok (.iconst 0, 1) := by decide +kernel
theorem dX5_text_87 : decode cX5_text 87 = .ok (.invokevirtual 273, 3) := by decide +kernel
theorem dX5_text_90 : decode cX5_text 90 = .ok (.aload_n 0, 1) := by decide +kernel
theorem dX5_text_91 : decode cX5_text 91 = .ok (.iconst 0, 1) := by decide +kernel
theorem dX5_text_92 : decode cX5_text 92 = .ok (.putfield 241, 3) := by decide +kernel
theorem dX5_text_95 : decode cX5_text 95 = .ok (.aload_n 0, 1) := by decide +kernel
theorem dX5_text_96 : decode cX5_text 96 = .ok (.getfield 266, 3) := by decide +kernel
theorem dX5_text_99 : decode cX5_text 99 = .ok (.ifCond .eq 10, 3) := by decide +kernel
theorem dX5_text_102 : decode cX5_text 102 = .ok (.iconst (-1), 1) := by decide +kernel
theorem dX5_text_103 : decode cX5_text 103 = .ok (.aload_n 0, 1) := by decide +kernel
theorem dX5_text_104 : decode cX5_text 104 = .ok (.getfield 247, 3) := by decide +kernel
theorem dX5_text_107 : decode cX5_text 107 = .ok (.isub, 1) := by decide +kernel
theorem dX5_text_108 : decode cX5_text 108 = .ok (.ireturn, 1) := by decide +kernel
theorem dX5_text_109 : decode cX5_text 109 = .ok (.iconst 0, 1) := by decide +kernel
theorem dX5_text_110 : decode cX5_text 110 = .ok (.istore_n 1, 1) := by decide +kernel
theorem dX5_text_111 : decode cX5_text 111 = .ok (.iconst 0, 1) := by decide +kernel
theorem dX5_text_112 : decode cX5_text 112 = .ok (.istore_n 2, 1) := by decide +kernel
theorem dX5_text_113 : decode cX5_text 113 = .ok (.iload_n 2, 1) := by decide +kernel
theorem dX5_text_114 : decode cX5_text 114 = .ok (.aload_n 0, 1) := by decide +kernel
theorem dX5_text_115 : decode cX5_text 115 = .ok (.getfield 277, 3) := by decide +kernel
theorem dX5_text_118 : decode cX5_text 118 = .ok (.if_icmp .ge 27, 3) := by decide +kernel
theorem dX5_text_121 : decode cX5_text 121 = .ok (.iload_n 1, 1) := by decide +kernel
theorem dX5_text_122 : decode cX5_text 122 = .ok (.aload_n 0, 1) := by decide +kernel
theorem dX5_text_123 : decode cX5_text 123 = .ok (.iconst 4, 1) := by decide +kernel
theorem dX5_text_124 : decode cX5_text 124 = .ok (.iload_n 2, 1) := by decide +kernel
theorem dX5_text_125 : decode cX5_text 125 = .ok (.imul, 1) := by decide +kernel
theorem dX5_text_126 : decode cX5_text 126 = .ok (.invokevirtual 311, 3) := by decide +kernel
theorem dX5_text_129 : decode cX5_text 129 = .ok (.ifCond .ge 7, 3) := by decide +kernel
theorem dX5_text_132 : decode cX5_text 132 = .ok (.iconst 0, 1) := by decide +kernel
theorem dX5_text_133 : decode cX5_text 133 = .ok (.goto 4, 3) := by decide +kernel
theorem dX5_text_136 : decode cX5_text 136 = .ok (.iconst 1, 1) := by decide +kernel
theorem dX5_text_137 : decode cX5_text 137 = .ok (.iadd, 1) := by decide +kernel
theorem dX5_text_138 : decode cX5_text 138 = .ok (.istore_n 1, 1) := by decide +kernel
theorem dX5_text_139 : decode cX5_text 139 = .ok (.iinc 2 1, 3) := by decide +kernel
theorem dX5_text_142 : decode cX5_text 142 = .ok (.goto (-29), 3) := by decide +kernel
theorem dX5_text_145 : decode cX5_text 145 = .ok (.iload_n 1, 1) := by decide +kernel
theorem dX5_text_146 : decode cX5_text 146 = .ok (.ireturn, 1) := by decide +kernel
set_option maxRecDepth 20000 in
theorem ggX5_isSpot_X5_within : GoodIn wsX5_isSpot wsX5_within := goodIn_r _ [4] (by decide +kernel) (by decide +kernel)
set_option maxRecDepth 20000 in
theorem gX5_isSpot_X5_within : GoodIn wsX5_isSpot (va_wsS RX5 80 yX5_within wsX5_within) := goodIn_app (goodIn_of _ (by decide +kernel)) ggX5_isSpot_X5_within
theorem dX5_isSpot_0 : decode cX5_isSpot 0 = .ok (.iload_n 0, 1) := by decide +kernel
theorem dX5_isSpot_1 : decode cX5_isSpot 1 = .ok (.iconst 0, 1) := by decide +kernel
theorem dX5_isSpot_2 : decode cX5_isSpot 2 = .ok (.bipush 9, 2) := by decide +kernel
theorem dX5_isSpot_4 : decode cX5_isSpot 4 = .ok (.invokestatic 80, 3) := by decide +kernel
theorem dX5_isSpot_7 : decode cX5_isSpot 7 = .ok (.ireturn, 1) := by decide +kernel
set_option maxRecDepth 20000 in
theorem ggX5_hold_X5_isSpot : GoodIn wsX5_hold wsX5_isSpot := goodIn_r _ [6, 7, 8, 5, 9] (by decide +kernel) (by decide +kernel)
set_option maxRecDepth 20000 in
theorem gX5_hold_X5_isSpot : GoodIn wsX5_hold (va_wsS RX5 314 yX5_isSpot wsX5_isSpot) := goodIn_app (goodIn_of _ (by decide +kernel)) ggX5_hold_X5_isSpot
set_option maxRecDepth 20000 in
theorem ggX5_hold_X5_isPerson : GoodIn wsX5_hold wsX5_isPerson := goodIn_r _ [13, 2, 7, 8, 5, 9, 19, 20, 21, 22, 23, 24, 25, 26, 27, 28, 29, 30, 31, 32, 33, 34, 35, 36, 37, 38, 39, 40, 41] (by decide +kernel) (by decide +kernel)
set_option maxRecDepth 20000 in
theorem gX5_hold_X5_isPerson : GoodIn wsX5_hold (wsV RX5 143 RX5 yX5_isPerson wsX5_isPerson) := goodIn_app (goodIn_of _ (by decide +kernel)) ggX5_hold_X5_isPerson
set_option maxRecDepth 20000 in
theorem ggX5_hold_X5_finding : GoodIn wsX5_hold wsX5_finding := goodIn_r _ [17, 18, 1, 19, 20, 21, 22, 23, 24, 25, 26, 27, 28, 29, 30, 31, 32, 33, 34, 35, 36, 37, 38, 39, 40, 41] (by decide +kernel) (by decide +kernel)
set_option maxRecDepth 20000 in
theorem gX5_hold_X5_finding : GoodIn wsX5_hold (wsV RX5 76 RX5 yX5_finding wsX5_finding) := goodIn_app (goodIn_of _ (by decide +kernel)) ggX5_hold_X5_finding
theorem dX5_hold_0 : decode cX5_hold 0 = .ok (.iload_n 1, 1) := by decide +kernel
theorem dX5_hold_1 : decode cX5_hold 1 = .ok (.invokestatic 314, 3) := by decide +kernel
theorem dX5_hold_4 : decode cX5_hold 4 = .ok (.ifCond .eq 16, 3) := by decide +kernel
theorem dX5_hold_7 : decode cX5_hold 7 = .ok (.iload_n 2, 1) := by decide +kernel
theorem dX5_hold_8 : decode cX5_hold 8 = .ok (.iconst (-1), 1) := by decide +kernel
theorem dX5_hold_9 : decode cX5_hold 9 = .ok (.if_icmp .eq 18, 3) := by decide +kernel
theorem dX5_hold_12 : decode cX5_hold 12 = .ok (.aload_n 0, 1) := by decide +kernel
theorem dX5_hold_13 : decode cX5_hold 13 = .ok (.iload_n 2, 1) := by decide +kernel
theorem dX5_hold_14 : decode cX5_hold 14 = .ok (.invokevirtual 143, 3) := by decide +kernel
theorem dX5_hold_17 : decode cX5_hold 17 = .ok (.ifCond .ne 10, 3) := by decide +kernel
theorem dX5_hold_20 : decode cX5_hold 20 = .ok (.aload_n 0, 1) := by decide +kernel
theorem dX5_hold_21 : decode cX5_hold 21 = .ok (.ldc 70, 2) := by decide +kernel
theorem dX5_hold_23 : decode cX5_hold 23 = .ok (.invokevirtual 76, 3) := by decide +kernel
theorem dX5_hold_26 : decode cX5_hold 26 = .ok (.ireturn, 1) := by decide +kernel
theorem dX5_hold_27 : decode cX5_hold 27 = .ok (.aload_n 0, 1) := by decide +kernel
theorem dX5_hold_28 : decode cX5_hold 28 = .ok (.getfield 9, 3) := by decide +kernel
theorem dX5_hold_31 : decode cX5_hold 31 = .ok (.iconst 3, 1) := by decide +kernel
theorem dX5_hold_32 : decode cX5_hold 32 = .ok (.iload_n 1, 1) := by decide +kernel
theorem dX5_hold_33 : decode cX5_hold 33 = .ok (.iadd, 1) := by decide +kernel
theorem dX5_hold_34 : decode cX5_hold 34 = .ok (.iload_n 2, 1) := by decide +kernel
theorem dX5_hold_35 : decode cX5_hold 35 = .ok (.iastore, 1) := by decide +kernel
theorem dX5_hold_36 : decode cX5_hold 36 = .ok (.iconst 1, 1) := by decide +kernel
theorem dX5_hold_37 : decode cX5_hold 37 = .ok (.ireturn, 1) := by decide +kernel
set_option maxRecDepth 20000 in
theorem ggX5_as_X5_isSpot : GoodIn wsX5_as wsX5_isSpot := goodIn_r _ [8, 9, 10, 7, 11] (by decide +kernel) (by decide +kernel)
set_option maxRecDepth 20000 in
theorem gX5_as_X5_isSpot : GoodIn wsX5_as (va_wsS RX5 314 yX5_isSpot wsX5_isSpot) := goodIn_app (goodIn_of _ (by decide +kernel)) ggX5_as_X5_isSpot
set_option maxRecDepth 20000 in
theorem ggX5_as_X5_isKind : GoodIn wsX5_as wsX5_isKind := goodIn_r _ [14, 9, 10, 7, 11] (by decide +kernel) (by decide +kernel)
set_option maxRecDepth 20000 in
theorem gX5_as_X5_isKind : GoodIn wsX5_as (va_wsS RX5 98 yX5_isKind wsX5_isKind) := goodIn_app (goodIn_of _ (by decide +kernel)) ggX5_as_X5_isKind
set_option maxRecDepth 20000 in
theorem ggX5_as_X5_finding : GoodIn wsX5_as wsX5_finding := goodIn_r _ [18, 19, 1, 33, 34, 35, 36, 37, 38, 39, 40, 41, 42, 43, 44, 45, 46, 47, 48, 49, 50, 51, 52, 53, 54, 55] (by decide +kernel) (by decide +kernel)
set_option maxRecDepth 20000 in
theorem gX5_as_X5_finding : GoodIn wsX5_as (wsV RX5 76 RX5 yX5_finding wsX5_finding) := goodIn_app (goodIn_of _ (by decide +kernel)) ggX5_as_X5_finding
set_option maxRecDepth 20000 in
theorem ggX5_as_X5_personIs : GoodIn wsX5_as wsX5_personIs := goodIn_r _ [23, 2, 24, 25, 7, 26, 33, 34, 35, 36, 37, 38, 39, 40, 41, 42, 43, 44, 45, 46, 47, 48, 49, 50, 51, 52, 53, 54, 55] (by decide +kernel) (by decide +kernel)
set_option maxRecDepth 20000 in
theorem gX5_as_X5_personIs : GoodIn wsX5_as (wsV RX5 106 RX5 yX5_personIs wsX5_personIs) := goodIn_app (goodIn_of _ (by decide +kernel)) ggX5_as_X5_personIs
set_option maxRecDepth 20000 in
theorem ggX5_as_X5_isUnder : GoodIn wsX5_as wsX5_isUnder := goodIn_r _ [29, 30, 31, 7, 32] (by decide +kernel) (by decide +kernel)
set_option maxRecDepth 20000 in
theorem gX5_as_X5_isUnder : GoodIn wsX5_as (va_wsS RX5 317 yX5_isUnder wsX5_isUnder) := goodIn_app (goodIn_of _ (by decide +kernel)) ggX5_as_X5_isUnder
theorem dX5_as_0 : decode cX5_as 0 = .ok (.iload_n 1, 1) := by decide +kernel
theorem dX5_as_1 : decode cX5_as 1 = .ok (.invokestatic 314, 3) := by decide +kernel
theorem dX5_as_4 : decode cX5_as 4 = .ok (.ifCond .eq 10, 3) := by decide +kernel
theorem dX5_as_7 : decode cX5_as 7 = .ok (.iload_n 2, 1) := by decide +kernel
theorem dX5_as_8 : decode cX5_as 8 = .ok (.invokestatic 98, 3) := by decide +kernel
theorem dX5_as_11 : decode cX5_as 11 = .ok (.ifCond .ne 10, 3) := by decide +kernel
theorem dX5_as_14 : decode cX5_as 14 = .ok (.aload_n 0, 1) := by decide +kernel
theorem dX5_as_15 : decode cX5_as 15 = .ok (.ldc 70, 2) := by decide +kernel
theorem dX5_as_17 : decode cX5_as 17 = .ok (.invokevirtual 76, 3) := by decide +kernel
theorem dX5_as_20 : decode cX5_as 20 = .ok (.ireturn, 1) := by decide +kernel
theorem dX5_as_21 : decode cX5_as 21 = .ok (.aload_n 0, 1) := by decide +kernel
theorem dX5_as_22 : decode cX5_as 22 = .ok (.getfield 9, 3) := by decide +kernel
theorem dX5_as_25 : decode cX5_as 25 = .ok (.iconst 3, 1) := by decide +kernel
theorem dX5_as_26 : decode cX5_as 26 = .ok (.iload_n 1, 1) := by decide +kernel
theorem dX5_as_27 : decode cX5_as 27 = .ok (.iadd, 1) := by decide +kernel
theorem dX5_as_28 : decode cX5_as 28 = .ok (.iaload, 1) := by decide +kernel
theorem dX5_as_29 : decode cX5_as 29 = .ok (.istore_n 3, 1) := by decide +kernel
theorem dX5_as_30 : decode cX5_as 30 = .ok (.iload_n 3, 1) := by decide +kernel
theorem dX5_as_31 : decode cX5_as 31 = .ok (.ifCond .ge 10, 3) := by decide +kernel
theorem dX5_as_34 : decode cX5_as 34 = .ok (.aload_n 0, 1) := by decide +kernel
theorem dX5_as_35 : decode cX5_as 35 = .ok (.ldc 227, 2) := by decide +kernel
theorem dX5_as_37 : decode cX5_as 37 = .ok (.invokevirtual 76, 3) := by decide +kernel
theorem dX5_as_40 : decode cX5_as 40 = .ok (.ireturn, 1) := by decide +kernel
theorem dX5_as_41 : decode cX5_as 41 = .ok (.aload_n 0, 1) := by decide +kernel
theorem dX5_as_42 : decode cX5_as 42 = .ok (.iload_n 3, 1) := by decide +kernel
theorem dX5_as_43 : decode cX5_as 43 = .ok (.iconst 0, 1) := by decide +kernel
theorem dX5_as_44 : decode cX5_as 44 = .ok (.invokevirtual 106, 3) := by decide +kernel
theorem dX5_as_47 : decode cX5_as 47 = .ok (.iload_n 2, 1) := by decide +kernel
theorem dX5_as_48 : decode cX5_as 48 = .ok (.invokestatic 317, 3) := by decide +kernel
theorem dX5_as_51 : decode cX5_as 51 = .ok (.ifCond .eq 7, 3) := by decide +kernel
theorem dX5_as_54 : decode cX5_as 54 = .ok (.iload_n 3, 1) := by decide +kernel
theorem dX5_as_55 : decode cX5_as 55 = .ok (.goto 10, 3) := by decide +kernel
theorem dX5_as_58 : decode cX5_as 58 = .ok (.aload_n 0, 1) := by decide +kernel
theorem dX5_as_59 : decode cX5_as 59 = .ok (.ldc_w 320, 3) := by decide +kernel
theorem dX5_as_62 : decode cX5_as 62 = .ok (.invokevirtual 76, 3) := by decide +kernel
theorem dX5_as_65 : decode cX5_as 65 = .ok (.ireturn, 1) := by decide +kernel
set_option maxRecDepth 20000 in
theorem ggX5_isSheet_X5_within : GoodIn wsX5_isSheet wsX5_within := goodIn_r _ [4] (by decide +kernel) (by decide +kernel)
set_option maxRecDepth 20000 in
theorem gX5_isSheet_X5_within : GoodIn wsX5_isSheet (va_wsS RX5 80 yX5_within wsX5_within) := goodIn_app (goodIn_of _ (by decide +kernel)) ggX5_isSheet_X5_within
theorem dX5_isSheet_0 : decode cX5_isSheet 0 = .ok (.iload_n 0, 1) := by decide +kernel
theorem dX5_isSheet_1 : decode cX5_isSheet 1 = .ok (.iconst 0, 1) := by decide +kernel
theorem dX5_isSheet_2 : decode cX5_isSheet 2 = .ok (.iconst 3, 1) := by decide +kernel
theorem dX5_isSheet_3 : decode cX5_isSheet 3 = .ok (.invokestatic 80, 3) := by decide +kernel
theorem dX5_isSheet_6 : decode cX5_isSheet 6 = .ok (.ireturn, 1) := by decide +kernel
theorem dX5_cutTo_0 : decode cX5_cutTo 0 = .ok (.iload_n 1, 1) := by decide +kernel
theorem dX5_cutTo_1 : decode cX5_cutTo 1 = .ok (.bipush 8, 2) := by decide +kernel
theorem dX5_cutTo_3 : decode cX5_cutTo 3 = .ok (.if_icmp .ne 8, 3) := by decide +kernel
theorem dX5_cutTo_6 : decode cX5_cutTo 6 = .ok (.iload_n 0, 1) := by decide +kernel
theorem dX5_cutTo_7 : decode cX5_cutTo 7 = .ok (.i2b, 1) := by decide +kernel
theorem dX5_cutTo_8 : decode cX5_cutTo 8 = .ok (.goto 15, 3) := by decide +kernel
theorem dX5_cutTo_11 : decode cX5_cutTo 11 = .ok (.iload_n 1, 1) := by decide +kernel
theorem dX5_cutTo_12 : decode cX5_cutTo 12 = .ok (.bipush 16, 2) := by decide +kernel
theorem dX5_cutTo_14 : decode cX5_cutTo 14 = .ok (.if_icmp .ne 8, 3) := by decide +kernel
theorem dX5_cutTo_17 : decode cX5_cutTo 17 = .ok (.iload_n 0, 1) := by decide +kernel
theorem dX5_cutTo_18 : decode cX5_cutTo 18 = .ok (.i2s, 1) := by decide +kernel
theorem dX5_cutTo_19 : decode cX5_cutTo 19 = .ok (.goto 4, 3) := by decide +kernel
theorem dX5_cutTo_22 : decode cX5_cutTo 22 = .ok (.iload_n 0, 1) := by decide +kernel
theorem dX5_cutTo_23 : decode cX5_cutTo 23 = .ok (.ireturn, 1) := by decide +kernel
set_option maxRecDepth 20000 in
theorem ggX5_sheet_X5_isSheet : GoodIn wsX5_sheet wsX5_isSheet := goodIn_r _ [9, 10, 11, 8, 12] (by decide +kernel) (by decide +kernel)
set_option maxRecDepth 20000 in
theorem gX5_sheet_X5_isSheet : GoodIn wsX5_sheet (va_wsS RX5 224 yX5_isSheet wsX5_isSheet) := goodIn_app (goodIn_of _ (by decide +kernel)) ggX5_sheet_X5_isSheet
set_option maxRecDepth 20000 in
theorem ggX5_sheet_X5_finding : GoodIn wsX5_sheet wsX5_finding := goodIn_r _ [16, 17, 1, 18, 19, 20, 21, 22, 23, 24, 25, 26, 27, 28, 29, 30, 31, 32, 33, 34, 35, 36, 37, 38, 39, 40] (by decide +kernel) (by decide +kernel)
set_option maxRecDepth 20000 in
theorem gX5_sheet_X5_finding : GoodIn wsX5_sheet (wsV RX5 76 RX5 yX5_finding wsX5_finding) := goodIn_app (goodIn_of _ (by decide +kernel)) ggX5_sheet_X5_finding
theorem dX5_sheet_0 : decode cX5_sheet 0 = .ok (.iload_n 1, 1) := by decide +kernel
theorem dX5_sheet_1 : decode cX5_sheet 1 = .ok (.invokestatic 224, 3) := by decide +kernel
theorem dX5_sheet_4 : decode cX5_sheet 4 = .ok (.ifCond .eq 25, 3) := by decide +kernel
theorem dX5_sheet_7 : decode cX5_sheet 7 = .ok (.iload_n 2, 1) := by decide +kernel
theorem dX5_sheet_8 : decode cX5_sheet 8 = .ok (.ifCond .eq 28, 3) := by decide +kernel
theorem dX5_sheet_11 : decode cX5_sheet 11 = .ok (.iload_n 2, 1) := by decide +kernel
theorem dX5_sheet_12 : decode cX5_sheet 12 = .ok (.bipush 8, 2) := by decide +kernel
theorem dX5_sheet_14 : decode cX5_sheet 14 = .ok (.if_icmp .eq 22, 3) := by decide +kernel
theorem dX5_sheet_17 : decode cX5_sheet 17 = .ok (.iload_n 2, 1) := by decide +kernel
theorem dX5_sheet_18 : decode cX5_sheet 18 = .ok (.bipush 16, 2) := by decide +kernel
theorem dX5_sheet_20 : decode cX5_sheet 20 = .ok (.if_icmp .eq 16, 3) := by decide +kernel
theorem dX5_sheet_23 : decode cX5_sheet 23 = .ok (.iload_n 2, 1) := by decide +kernel
theorem dX5_sheet_24 : decode cX5_sheet 24 = .ok (.bipush 32, 2) := by decide +kernel
theorem dX5_sheet_26 : decode cX5_sheet 26 = .ok (.if_icmp .eq 10, 3) := by decide +kernel
theorem dX5_sheet_29 : decode cX5_sheet 29 = .ok (.aload_n 0, 1) := by decide +kernel
theorem dX5_sheet_30 : decode cX5_sheet 30 = .ok (.ldc 70, 2) := by decide +kernel
theorem dX5_sheet_32 : decode cX5_sheet 32 = .ok (.invokevirtual 76, 3) := by decide +kernel
theorem dX5_sheet_35 : decode cX5_sheet 35 = .ok (.ireturn, 1) := by decide +kernel
theorem dX5_sheet_36 : decode cX5_sheet 36 = .ok (.iload_n 3, 1) := by decide +kernel
theorem dX5_sheet_37 : decode cX5_sheet 37 = .ok (.ifCond .ge 11, 3) := by decide +kernel
theorem dX5_sheet_40 : decode cX5_sheet 40 = .ok (.aload_n 0, 1) := by decide +kernel
theorem dX5_sheet_41 : decode cX5_sheet 41 = .ok (.ldc_w 321, 3) := by decide +kernel
theorem dX5_sheet_44 : decode cX5_sheet 44 = .ok (.invokevirtual 76, 3) := by decide +kernel
theorem dX5_sheet_47 : decode cX5_sheet 47 = .ok (.ireturn, 1) := by decide +kernel
theorem dX5_sheet_48 : decode cX5_sheet 48 = .ok (.iload_n 3, 1) := by decide +kernel
theorem dX5_sheet_49 : decode cX5_sheet 49 = .ok (.bipush 40, 2) := by decide +kernel
theorem dX5_sheet_51 : decode cX5_sheet 51 = .ok (.if_icmp .le 10, 3) := by decide +kernel
theorem dX5_sheet_54 : decode cX5_sheet 54 = .ok (.aload_n 0, 1) := by decide +kernel
theorem dX5_sheet_55 : decode cX5_sheet 55 = .ok (.ldc 70, 2) := by decide +kernel
theorem dX5_sheet_57 : decode cX5_sheet 57 = .ok (.invokevirtual 76, 3) := by decide +kernel
theorem dX5_sheet_60 : decode cX5_sheet 60 = .ok (.ireturn, 1) := by decide +kernel
theorem dX5_sheet_61 : decode cX5_sheet 61 = .ok (.aload_n 0, 1) := by decide +kernel
theorem dX5_sheet_62 : decode cX5_sheet 62 = .ok (.getfield 58, 3) := by decide +kernel
theorem dX5_sheet_65 : decode cX5_sheet 65 = .ok (.iload_n 1, 1) := by decide +kernel
theorem dX5_sheet_66 : decode cX5_sheet 66 = .ok (.iload_n 2, 1) := by decide +kernel
theorem dX5_sheet_67 : decode cX5_sheet 67 = .ok (.iastore, 1) := by decide +kernel
theorem dX5_sheet_68 : decode cX5_sheet 68 = .ok (.aload_n 0, 1) := by decide +kernel
theorem dX5_sheet_69 : decode cX5_sheet 69 = .ok (.getfield 61, 3) := by decide +kernel
theorem dX5_sheet_72 : decode cX5_sheet 72 = .ok (.iload_n 1, 1) := by decide +kernel
theorem dX5_sheet_73 : decode cX5_sheet 73 = .ok (.iload_n 2, 1) := by decide +kernel
theorem dX5_sheet_74 : decode cX5_sheet 74 = .ok (.ifCond .ne 7, 3) := by decide +kernel
theorem dX5_sheet_77 : decode cX5_sheet 77 = .ok (.iconst 0, 1) := by decide +kernel
theorem dX5_sheet_78 : decode cX5_sheet 78 = .ok (.goto 4, 3) := by decide +kernel
theorem dX5_sheet_81 : decode cX5_sheet 81 = .ok (.iload_n 3, 1) := by decide +kernel
theorem dX5_sheet_82 : decode cX5_sheet 82 = .ok (.iastore, 1) := by decide +kernel
theorem dX5_sheet_83 : decode cX5_sheet 83 = .ok (.iconst 0, 1) := by decide +kernel
theorem dX5_sheet_84 : decode cX5_sheet 84 = .ok (.istore 4, 2) := by decide +kernel
theorem dX5_sheet_86 : decode cX5_sheet 86 = .ok (.iload 4, 2) := by decide +kernel
theorem dX5_sheet_88 : decode cX5_sheet 88 = .ok (.bipush 40, 2) := by decide +kernel
theorem dX5_sheet_90 : decode cX5_sheet 90 = .ok (.if_icmp .ge 22, 3) := by decide +kernel
theorem dX5_sheet_93 : decode cX5_sheet 93 = .ok (.aload_n 0, 1) := by decide +kernel
theorem dX5_sheet_94 : decode cX5_sheet 94 = .ok (.getfield 64, 3) := by decide +kernel
theorem dX5_sheet_97 : decode cX5_sheet 97 = .ok (.bipush 40, 2) := by decide +kernel
theorem dX5_sheet_99 : decode cX5_sheet 99 = .ok (.iload_n 1, 1) := by decide +kernel
theorem dX5_sheet_100 : decode cX5_sheet 100 = .ok (.imul, 1) := by decide +kernel
theorem dX5_sheet_101 : decode cX5_sheet 101 = .ok (.iload 4, 2) := by decide +kernel
theorem dX5_sheet_103 : decode cX5_sheet 103 = .ok (.iadd, 1) := by decide +kernel
theorem dX5_sheet_104 : decode cX5_sheet 104 = .ok (.iconst 0, 1) := by decide +kernel
theorem dX5_sheet_105 : decode cX5_sheet 105 = .ok (.iastore, 1) := by decide +kernel
theorem dX5_sheet_106 : decode cX5_sheet 106 = .ok (.iinc 4 1, 3) := by decide +kernel
theorem dX5_sheet_109 : decode cX5_sheet 109 = .ok (.goto (-23), 3) := by decide +kernel
theorem dX5_sheet_112 : decode cX5_sheet 112 = .ok (.aload_n 0, 1) := by decide +kernel
theorem dX5_sheet_113 : decode cX5_sheet 113 = .ok (.getfield 61, 3) := by decide +kernel
theorem dX5_sheet_116 : decode cX5_sheet 116 = .ok (.iload_n 1, 1) := by decide +kernel
theorem dX5_sheet_117 : decode cX5_sheet 117 = .ok (.iaload, 1) := by decide +kernel
theorem dX5_sheet_118 : decode cX5_sheet 118 = .ok (.ireturn, 1) := by decide +kernel
set_option maxRecDepth 20000 in
theorem ggX5_write_X5_isSheet : GoodIn wsX5_write wsX5_isSheet := goodIn_r _ [9, 10, 11, 8, 12] (by decide +kernel) (by decide +kernel)
set_option maxRecDepth 20000 in
theorem gX5_write_X5_isSheet : GoodIn wsX5_write (va_wsS RX5 224 yX5_isSheet wsX5_isSheet) := goodIn_app (goodIn_of _ (by decide +kernel)) ggX5_write_X5_isSheet
set_option maxRecDepth 20000 in
theorem ggX5_write_X5_finding : GoodIn wsX5_write wsX5_finding := goodIn_r _ [16, 17, 1, 21, 22, 23, 24, 25, 26, 27, 28, 29, 30, 31, 32, 33, 34, 35, 36, 37, 38, 39, 40, 41, 42, 43] (by decide +kernel) (by decide +kernel)
set_option maxRecDepth 20000 in
theorem gX5_write_X5_finding : GoodIn wsX5_write (wsV RX5 76 RX5 yX5_finding wsX5_finding) := goodIn_app (goodIn_of _ (by decide +kernel)) ggX5_write_X5_finding
set_option maxRecDepth 20000 in
theorem ggX5_write_X5_within : GoodIn wsX5_write wsX5_within := goodIn_r _ [12] (by decide +kernel) (by decide +kernel)
set_option maxRecDepth 20000 in
theorem gX5_write_X5_within : GoodIn wsX5_write (va_wsS RX5 80 yX5_within wsX5_within) := goodIn_app (goodIn_of _ (by decide +kernel)) ggX5_write_X5_within
set_option maxRecDepth 20000 in
theorem ggX5_write_X5_cutTo : GoodIn wsX5_write wsX5_cutTo := goodIn_r _ [20] (by decide +kernel) (by decide +kernel)
set_option maxRecDepth 20000 in
theorem gX5_write_X5_cutTo : GoodIn wsX5_write (va_wsS RX5 322 yX5_cutTo wsX5_cutTo) := goodIn_app (goodIn_of _ (by decide +kernel)) ggX5_write_X5_cutTo
theorem dX5_write_0 : decode cX5_write 0 = .ok (.iload_n 1, 1) := by decide +kernel
theorem dX5_write_1 : decode cX5_write 1 = .ok (.invokestatic 224, 3) := by decide +kernel
theorem dX5_write_4 : decode cX5_write 4 = .ok (.ifCond .ne 10, 3) := by decide +kernel
theorem dX5_write_7 : decode cX5_write 7 = .ok (.aload_n 0, 1) := by decide +kernel
theorem dX5_write_8 : decode cX5_write 8 = .ok (.ldc 70, 2) := by decide +kernel
theorem dX5_write_10 : decode cX5_write 10 = .ok (.invokevirtual 76, 3) := by decide +kernel
theorem dX5_write_13 : decode cX5_write 13 = .ok (.ireturn, 1) := by decide +kernel
theorem dX5_write_14 : decode cX5_write 14 = .ok (.aload_n 0, 1) := by decide +kernel
theorem dX5_write_15 : decode cX5_write 15 = .ok (.getfield 58, 3) := by decide +kernel
theorem dX5_write_18 : decode cX5_write 18 = .ok (.iload_n 1, 1) := by decide +kernel
theorem dX5_write_19 : decode cX5_write 19 = .ok (.iaload, 1) := by decide +kernel
theorem dX5_write_20 : decode cX5_write 20 = .ok (.ifCond .ne 10, 3) := by decide +kernel
theorem dX5_write_23 : decode cX5_write 23 = .ok (.aload_n 0, 1) := by decide +kernel
theorem dX5_write_24 : decode cX5_write 24 = .ok (.ldc 227, 2) := by decide +kernel
theorem dX5_write_26 : decode cX5_write 26 = .ok (.invokevirtual 76, 3) := by decide +kernel
theorem dX5_write_29 : decode cX5_write 29 = .ok (.ireturn, 1) := by decide +kernel
theorem dX5_write_30 : decode cX5_write 30 = .ok (.iload_n 2, 1) := by decide +kernel
theorem dX5_write_31 : decode cX5_write 31 = .ok (.iconst 0, 1) := by decide +kernel
theorem dX5_write_32 : decode cX5_write 32 = .ok (.aload_n 0, 1) := by decide +kernel
theorem dX5_write_33 : decode cX5_write 33 = .ok (.getfield 61, 3) := by decide +kernel
theorem dX5_write_36 : decode cX5_write 36 = .ok (.iload_n 1, 1) := by decide +kernel
theorem dX5_write_37 : decode cX5_write 37 = .ok (.iaload, 1) := by decide +kernel
theorem dX5_write_38 : decode cX5_write 38 = .ok (.iconst 1, 1) := by decide +kernel
theorem dX5_write_39 : decode cX5_write 39 = .ok (.isub, 1) := by decide +kernel
theorem dX5_write_40 : decode cX5_write 40 = .ok (.invokestatic 80, 3) := by decide +kernel
theorem dX5_write_43 : decode cX5_write 43 = .ok (.ifCond .ne 10, 3) := by decide +kernel
theorem dX5_write_46 : decode cX5_write 46 = .ok (.aload_n 0, 1) := by decide +kernel
theorem dX5_write_47 : decode cX5_write 47 = .ok (.ldc 70, 2) := by decide +kernel
theorem dX5_write_49 : decode cX5_write 49 = .ok (.invokevirtual 76, 3) := by decide +kernel
theorem dX5_write_52 : decode cX5_write 52 = .ok (.ireturn, 1) := by decide +kernel
theorem dX5_write_53 : decode cX5_write 53 = .ok (.aload_n 0, 1) := by decide +kernel
theorem dX5_write_54 : decode cX5_write 54 = .ok (.getfield 64, 3) := by decide +kernel
theorem dX5_write_57 : decode cX5_write 57 = .ok (.bipush 40, 2) := by decide +kernel
theorem dX5_write_59 : decode cX5_write 59 = .ok (.iload_n 1, 1) := by decide +kernel
theorem dX5_write_60 : decode cX5_write 60 = .ok (.imul, 1) := by decide +kernel
theorem dX5_write_61 : decode cX5_write 61 = .ok (.iload_n 2, 1) := by decide +kernel
theorem dX5_write_62 : decode cX5_write 62 = .ok (.iadd, 1) := by decide +kernel
theorem dX5_write_63 : decode cX5_write 63 = .ok (.iload_n 3, 1) := by decide +kernel
theorem dX5_write_64 : decode cX5_write 64 = .ok (.aload_n 0, 1) := by decide +kernel
theorem dX5_write_65 : decode cX5_write 65 = .ok (.getfield 58, 3) := by decide +kernel
theorem dX5_write_68 : decode cX5_write 68 = .ok (.iload_n 1, 1) := by decide +kernel
theorem dX5_write_69 : decode cX5_write 69 = .ok (.iaload, 1) := by decide +kernel
theorem dX5_write_70 : decode cX5_write 70 = .ok (.invokestatic 322, 3) := by decide +kernel
theorem dX5_write_73 : decode cX5_write 73 = .ok (.iastore, 1) := by decide +kernel
theorem dX5_write_74 : decode cX5_write 74 = .ok (.iconst 1, 1) := by decide +kernel
theorem dX5_write_75 : decode cX5_write 75 = .ok (.ireturn, 1) := by decide +kernel
set_option maxRecDepth 20000 in
theorem ggX5_copy_X5_isSheet : GoodIn wsX5_copy wsX5_isSheet := goodIn_r _ [11, 12, 13, 10, 14] (by decide +kernel) (by decide +kernel)
set_option maxRecDepth 20000 in
theorem gX5_copy_X5_isSheet : GoodIn wsX5_copy (va_wsS RX5 224 yX5_isSheet wsX5_isSheet) := goodIn_app (goodIn_of _ (by decide +kernel)) ggX5_copy_X5_isSheet
set_option maxRecDepth 20000 in
theorem ggX5_copy_X5_finding : GoodIn wsX5_copy wsX5_finding := goodIn_r _ [18, 19, 1, 20, 21, 22, 23, 24, 25, 26, 27, 28, 29, 30, 31, 32, 33, 34, 35, 36, 37, 38, 39, 40, 41, 42] (by decide +kernel) (by decide +kernel)
set_option maxRecDepth 20000 in
theorem gX5_copy_X5_finding : GoodIn wsX5_copy (wsV RX5 76 RX5 yX5_finding wsX5_finding) := goodIn_app (goodIn_of _ (by decide +kernel)) ggX5_copy_X5_finding
theorem dX5_copy_0 : decode cX5_copy 0 = .ok (.iload_n 1, 1) := by decide +kernel
theorem dX5_copy_1 : decode cX5_copy 1 = .ok (.invokestatic 224, 3) := by decide +kernel
theorem dX5_copy_4 : decode cX5_copy 4 = .ok (.ifCond .eq 10, 3) := by decide +kernel
theorem dX5_copy_7 : decode cX5_copy 7 = .ok (.iload_n 3, 1) := by decide +kernel
theorem dX5_copy_8 : decode cX5_copy 8 = .ok (.invokestatic 224, 3) := by decide +kernel
theorem dX5_copy_11 : decode cX5_copy 11 = .ok (.ifCond .ne 10, 3) := by decide +kernel
theorem dX5_copy_14 : decode cX5_copy 14 = .ok (.aload_n 0, 1) := by decide +kernel
theorem dX5_copy_15 : decode cX5_copy 15 = .ok (.ldc 70, 2) := by decide +kernel
theorem dX5_copy_17 : decode cX5_copy 17 = .ok (.invokevirtual 76, 3) := by decide +kernel
theorem dX5_copy_20 : decode cX5_copy 20 = .ok (.ireturn, 1) := by decide +kernel
theorem dX5_copy_21 : decode cX5_copy 21 = .ok (.aload_n 0, 1) := by decide +kernel
theorem dX5_copy_22 : decode cX5_copy 22 = .ok (.getfield 58, 3) := by decide +kernel
theorem dX5_copy_25 : decode cX5_copy 25 = .ok (.iload_n 1, 1) := by decide +kernel
theorem dX5_copy_26 : decode cX5_copy 26 = .ok (.iaload, 1) := by decide +kernel
theorem dX5_copy_27 : decode cX5_copy 27 = .ok (.ifCond .eq 12, 3) := by decide +kernel
theorem dX5_copy_30 : decode cX5_copy 30 = .ok (.aload_n 0, 1) := by decide +kernel
theorem dX5_copy_31 : decode cX5_copy 31 = .ok (.getfield 58, 3) := by decide +kernel
theorem dX5_copy_34 : decode cX5_copy 34 = .ok (.iload_n 3, 1) := by decide +kernel
theorem dX5_copy_35 : decode cX5_copy 35 = .ok (.iaload, 1) := by decide +kernel
theorem dX5_copy_36 : decode cX5_copy 36 = .ok (.ifCond .ne 10, 3) := by decide +kernel
theorem dX5_copy_39 : decode cX5_copy 39 = .ok (.aload_n 0, 1) := by decide +kernel
theorem dX5_copy_40 : decode cX5_copy 40 = .ok (.ldc 227, 2) := by decide +kernel
theorem dX5_copy_42 : decode cX5_copy 42 = .ok (.invokevirtual 76, 3) := by decide +kernel
theorem dX5_copy_45 : decode cX5_copy 45 = .ok (.ireturn, 1) := by decide +kernel
theorem dX5_copy_46 : decode cX5_copy 46 = .ok (.aload_n 0, 1) := by decide +kernel
theorem dX5_copy_47 : decode cX5_copy 47 = .ok (.getfield 58, 3) := by decide +kernel
theorem dX5_copy_50 : decode cX5_copy 50 = .ok (.iload_n 1, 1) := by decide +kernel
theorem dX5_copy_51 : decode cX5_copy 51 = .ok (.iaload, 1) := by decide +kernel
theorem dX5_copy_52 : decode cX5_copy 52 = .ok (.aload_n 0, 1) := by decide +kernel
theorem dX5_copy_53 : decode cX5_copy 53 = .ok (.getfield 58, 3) := by decide +kernel
theorem dX5_copy_56 : decode cX5_copy 56 = .ok (.iload_n 3, 1) := by decide +kernel
theorem dX5_copy_57 : decode cX5_copy 57 = .ok (.iaload, 1) := by decide +kernel
theorem dX5_copy_58 : decode cX5_copy 58 = .ok (.if_icmp .eq 11, 3) := by decide +kernel
theorem dX5_copy_61 : decode cX5_copy 61 = .ok (.aload_n 0, 1) := by decide +kernel
theorem dX5_copy_62 : decode cX5_copy 62 = .ok (.ldc_w 320, 3) := by decide +kernel
theorem dX5_copy_65 : decode cX5_copy 65 = .ok (.invokevirtual 76, 3) := by decide +kernel
theorem dX5_copy_68 : decode cX5_copy 68 = .ok (.ireturn, 1) := by decide +kernel
theorem dX5_copy_69 : decode cX5_copy 69 = .ok (.iload_n 2, 1) := by decide +kernel
theorem dX5_copy_70 : decode cX5_copy 70 = .ok (.ifCond .lt 48, 3) := by decide +kernel
theorem dX5_copy_73 : decode cX5_copy 73 = .ok (.iload 4, 2) := by decide +kernel
theorem dX5_copy_75 : decode cX5_copy 75 = .ok (.ifCond .lt 43, 3) := by decide +kernel
theorem dX5_copy_78 : decode cX5_copy 78 = .ok (.iload 5, 2) := by decide +kernel
theorem dX5_copy_80 : decode cX5_copy 80 = .ok (.ifCond .lt 38, 3) := by decide +kernel
theorem dX5_copy_83 : decode cX5_copy 83 = .ok (.iload_n 2, 1) := by decide +kernel
theorem dX5_copy_84 : decode cX5_copy 84 = .ok (.i2l, 1) := by decide +kernel
theorem dX5_copy_85 : decode cX5_copy 85 = .ok (.iload 5, 2) := by decide +kernel
theorem dX5_copy_87 : decode cX5_copy 87 = .ok (.i2l, 1) := by decide +kernel
theorem dX5_copy_88 : decode cX5_copy 88 = .ok (.ladd, 1) := by decide +kernel
theorem dX5_copy_89 : decode cX5_copy 89 = .ok (.aload_n 0, 1) := by decide +kernel
theorem dX5_copy_90 : decode cX5_copy 90 = .ok (.getfield 61, 3) := by decide +kernel
theorem dX5_copy_93 : decode cX5_copy 93 = .ok (.iload_n 1, 1) := by decide +kernel
theorem dX5_copy_94 : decode cX5_copy 94 = .ok (.iaload, 1) := by decide +kernel
theorem dX5_copy_95 : decode cX5_copy 95 = .ok (.i2l, 1) := by decide +kernel
theorem dX5_copy_96 : decode cX5_copy 96 = .ok (.lcmp, 1) := by decide +kernel
theorem dX5_copy_97 : decode cX5_copy 97 = .ok (.ifCond .gt 21, 3) := by decide +kernel
theorem dX5_copy_100 : decode cX5_copy 100 = .ok (.iload 4, 2) := by decide +kernel
theorem dX5_copy_102 : decode cX5_copy 102 = .ok (.i2l, 1) := by decide +kernel
theorem dX5_copy_103 : decode cX5_copy 103 = .ok (.iload 5, 2) := by decide +kernel
theorem dX5_copy_105 : decode cX5_copy 105 = .ok (.i2l, 1) := by decide +kernel
theorem dX5_copy_106 : decode cX5_copy 106 = .ok (.ladd, 1) := by decide +kernel
theorem dX5_copy_107 : decode cX5_copy 107 = .ok (.aload_n 0, 1) := by decide +kernel
theorem dX5_copy_108 : decode cX5_copy 108 = .ok (.getfield 61, 3) := by decide +kernel
theorem dX5_copy_111 : decode cX5_copy 111 = .ok (.iload_n 3, 1) := by decide +kernel
theorem dX5_copy_112 : decode cX5_copy 112 = .ok (.iaload, 1) := by decide +kernel
theorem dX5_copy_113 : decode cX5_copy 113 = .ok (.i2l, 1) := by decide +kernel
theorem dX5_copy_114 : decode cX5_copy 114 = .ok (.lcmp, 1) := by decide +kernel
theorem dX5_copy_115 : decode cX5_copy 115 = .ok (.ifCond .le 10, 3) := by decide +kernel
theorem dX5_copy_118 : decode cX5_copy 118 = .ok (.aload_n 0, 1) := by decide +kernel
theorem dX5_copy_119 : decode cX5_copy 119 = .ok (.ldc 70, 2) := by decide +kernel
theorem dX5_copy_121 : decode cX5_copy 121 = .ok (.invokevirtual 76, 3) := by decide +kernel
theorem dX5_copy_124 : decode cX5_copy 124 = .ok (.ireturn, 1) := by decide +kernel
theorem dX5_copy_125 : decode cX5_copy 125 = .ok (.iconst 0, 1) := by decide +kernel
theorem dX5_copy_126 : decode cX5_copy 126 = .ok (.istore 6, 2) := by decide +kernel
theorem dX5_copy_128 : decode cX5_copy 128 = .ok (.iload 6, 2) := by decide +kernel
theorem dX5_copy_130 : decode cX5_copy 130 = .ok (.iload 5, 2) := by decide +kernel
theorem dX5_copy_132 : decode cX5_copy 132 = .ok (.if_icmp .ge 30, 3) := by decide +kernel
theorem dX5_copy_135 : decode cX5_copy 135 = .ok (.aload_n 0, 1) := by decide +kernel
theorem dX5_copy_136 : decode cX5_copy 136 = .ok (.getfield 67, 3) := by decide +kernel
theorem dX5_copy_139 : decode cX5_copy 139 = .ok (.iload 6, 2) := by decide +kernel
theorem dX5_copy_141 : decode cX5_copy 141 = .ok (.aload_n 0, 1) := by decide +kernel
theorem dX5_copy_142 : decode cX5_copy 142 = .ok (.getfield 64, 3) := by decide +kernel
theorem dX5_copy_145 : decode cX5_copy 145 = .ok (.bipush 40, 2) := by decide +kernel
theorem dX5_copy_147 : decode cX5_copy 147 = .ok (.iload_n 1, 1) := by decide +kernel
theorem dX5_copy_148 : decode cX5_copy 148 = .ok (.imul, 1) := by decide +kernel
theorem dX5_copy_149 : decode cX5_copy 149 = .ok (.iload_n 2, 1) := by decide +kernel
theorem dX5_copy_150 : decode cX5_copy 150 = .ok (.iadd, 1) := by decide +kernel
theorem dX5_copy_151 : decode cX5_copy 151 = .ok (.iload 6, 2) := by decide +kernel
theorem dX5_copy_153 : decode cX5_copy 153 = .ok (.iadd, 1) := by decide +kernel
theorem dX5_copy_154 : decode cX5_copy 154 = .ok (.iaload, 1) := by decide +kernel
theorem dX5_copy_155 : decode cX5_copy 155 = .ok (.iastore, 1) := by decide +kernel
theorem dX5_copy_156 : decode cX5_copy 156 = .ok (.iinc 6 1, 3) := by decide +kernel
theorem dX5_copy_159 : decode cX5_copy 159 = .ok (.goto (-31), 3) := by decide +kernel
theorem dX5_copy_162 : decode cX5_copy 162 = .ok (.iconst 0, 1) := by decide +kernel
theorem dX5_copy_163 : decode cX5_copy 163 = .ok (.istore 6, 2) := by decide +kernel
theorem dX5_copy_165 : decode cX5_copy 165 = .ok (.iload 6, 2) := by decide +kernel
theorem dX5_copy_167 : decode cX5_copy 167 = .ok (.iload 5, 2) := by decide +kernel
theorem dX5_copy_169 : decode cX5_copy 169 = .ok (.if_icmp .ge 31, 3) := by decide +kernel
theorem dX5_copy_172 : decode cX5_copy 172 = .ok (.aload_n 0, 1) := by decide +kernel
theorem dX5_copy_173 : decode cX5_copy 173 = .ok (.getfield 64, 3) := by decide +kernel
theorem dX5_copy_176 : decode cX5_copy 176 = .ok (.bipush 40, 2) := by decide +kernel
theorem dX5_copy_178 : decode cX5_copy 178 = .ok (.iload_n 3, 1) := by decide +kernel
theorem dX5_copy_179 : decode cX5_copy 179 = .ok (.imul, 1) := by decide +kernel
theorem dX5_copy_180 : decode cX5_copy 180 = .ok (.iload 4, 2) := by decide +kernel
theorem dX5_copy_182 : decode cX5_copy 182 = .ok (.iadd, 1) := by decide +kernel
theorem dX5_copy_183 : decode cX5_copy 183 = .ok (.iload 6, 2) := by decide +kernel
theorem dX5_copy_185 : decode cX5_copy 185 = .ok (.iadd, 1) := by decide +kernel
theorem dX5_copy_186 : decode cX5_copy 186 = .ok (.aload_n 0, 1) := by decide +kernel
theorem dX5_copy_187 : decode cX5_copy 187 = .ok (.getfield 67, 3) := by decide +kernel
theorem dX5_copy_190 : decode cX5_copy 190 = .ok (.iload 6, 2) := by decide +kernel
theorem dX5_copy_192 : decode cX5_copy 192 = .ok (.iaload, 1) := by decide +kernel
theorem dX5_copy_193 : decode cX5_copy 193 = .ok (.iastore, 1) := by decide +kernel
theorem dX5_copy_194 : decode cX5_copy 194 = .ok (.iinc 6 1, 3) := by decide +kernel
theorem dX5_copy_197 : decode cX5_copy 197 = .ok (.goto (-32), 3) := by decide +kernel
theorem dX5_copy_200 : decode cX5_copy 200 = .ok (.iload 5, 2) := by decide +kernel
theorem dX5_copy_202 : decode cX5_copy 202 = .ok (.ireturn, 1) := by decide +kernel
theorem dX5_above_0 : decode cX5_above 0 = .ok (.iload_n 0, 1) := by decide +kernel
theorem dX5_above_1 : decode cX5_above 1 = .ok (.ifCond .ne 7, 3) := by decide +kernel
theorem dX5_above_4 : decode cX5_above 4 = .ok (.iconst (-1), 1) := by decide +kernel
theorem dX5_above_5 : decode cX5_above 5 = .ok (.goto 32, 3) := by decide +kernel
theorem dX5_above_8 : decode cX5_above 8 = .ok (.iload_n 0, 1) := by decide +kernel
theorem dX5_above_9 : decode cX5_above 9 = .ok (.iconst 3, 1) := by decide +kernel
theorem dX5_above_10 : decode cX5_above 10 = .ok (.if_icmp .ne 7, 3) := by decide +kernel
theorem dX5_above_13 : decode cX5_above 13 = .ok (.iconst 2, 1) := by decide +kernel
theorem dX5_above_14 : decode cX5_above 14 = .ok (.goto 23, 3) := by decide +kernel
theorem dX5_above_17 : decode cX5_above 17 = .ok (.iload_n 0, 1) := by decide +kernel
theorem dX5_above_18 : decode cX5_above 18 = .ok (.iconst 4, 1) := by decide +kernel
theorem dX5_above_19 : decode cX5_above 19 = .ok (.if_icmp .ne 7, 3) := by decide +kernel
theorem dX5_above_22 : decode cX5_above 22 = .ok (.iconst 3, 1) := by decide +kernel
theorem dX5_above_23 : decode cX5_above 23 = .ok (.goto 14, 3) := by decide +kernel
theorem dX5_above_26 : decode cX5_above 26 = .ok (.iload_n 0, 1) := by decide +kernel
theorem dX5_above_27 : decode cX5_above 27 = .ok (.bipush 6, 2) := by decide +kernel
theorem dX5_above_29 : decode cX5_above 29 = .ok (.if_icmp .ne 7, 3) := by decide +kernel
theorem dX5_above_32 : decode cX5_above 32 = .ok (.iconst 1, 1) := by decide +kernel
theorem dX5_above_33 : decode cX5_above 33 = .ok (.goto 4, 3) := by decide +kernel
theorem dX5_above_36 : decode cX5_above 36 = .ok (.iconst 0, 1) := by decide +kernel
theorem dX5_above_37 : decode cX5_above 37 = .ok (.ireturn, 1) := by decide +kernel
set_option maxRecDepth 20000 in
theorem ggX5_isUnder_X5_above : GoodIn wsX5_isUnder wsX5_above := goodIn_r _ [4] (by decide +kernel) (by decide +kernel)
set_option maxRecDepth 20000 in
theorem gX5_isUnder_X5_above : GoodIn wsX5_isUnder (va_wsS RX5 325 yX5_above wsX5_above) := goodIn_app (goodIn_of _ (by decide +kernel)) ggX5_isUnder_X5_above
theorem dX5_isUnder_0 : decode cX5_isUnder 0 = .ok (.iload_n 0, 1) := by decide +kernel
theorem dX5_isUnder_1 : decode cX5_isUnder 1 = .ok (.istore_n 2, 1) := by decide +kernel
theorem dX5_isUnder_2 : decode cX5_isUnder 2 = .ok (.iload_n 2, 1) := by decide +kernel
theorem dX5_isUnder_3 : decode cX5_isUnder 3 = .ok (.ifCond .lt 16, 3) := by decide +kernel
theorem dX5_isUnder_6 : decode cX5_isUnder 6 = .ok (.iload_n 2, 1) := by decide +kernel
theorem dX5_isUnder_7 : decode cX5_isUnder 7 = .ok (.iload_n 1, 1) := by decide +kernel
theorem dX5_isUnder_8 : decode cX5_isUnder 8 = .ok (.if_icmp .eq 11, 3) := by decide +kernel
theorem dX5_isUnder_11 : decode cX5_isUnder 11 = .ok (.iload_n 2, 1) := by decide +kernel
theorem dX5_isUnder_12 : decode cX5_isUnder 12 = .ok (.invokestatic 325, 3) := by decide +kernel
theorem dX5_isUnder_15 : decode cX5_isUnder 15 = .ok (.istore_n 2, 1) := by decide +kernel
theorem dX5_isUnder_16 : decode cX5_isUnder 16 = .ok (.goto (-14), 3) := by decide +kernel
theorem dX5_isUnder_19 : decode cX5_isUnder 19 = .ok (.iload_n 2, 1) := by decide +kernel
theorem dX5_isUnder_20 : decode cX5_isUnder 20 = .ok (.ifCond .lt 7, 3) := by decide +kernel
theorem dX5_isUnder_23 : decode cX5_isUnder 23 = .ok (.iconst 1, 1) := by decide +kernel
theorem dX5_isUnder_24 : decode cX5_isUnder 24 = .ok (.goto 4, 3) := by decide +kernel
theorem dX5_isUnder_27 : decode cX5_isUnder 27 = .ok (.iconst 0, 1) := by decide +kernel
theorem dX5_isUnder_28 : decode cX5_isUnder 28 = .ok (.ireturn, 1) := by decide +kernel
set_option maxRecDepth 20000 in
theorem ggX5_load_X5_lacks : GoodIn wsX5_load wsX5_lacks := goodIn_r _ [8, 9, 10, 11, 12, 13, 7, 14, 15, 16, 17, 29, 30, 31, 32, 33, 34, 35, 36, 37, 38, 39, 40, 41, 42, 43, 44, 45, 46, 47, 48, 49, 50, 51] (by decide +kernel) (by decide +kernel)
set_option maxRecDepth 20000 in
theorem gX5_load_X5_lacks : GoodIn wsX5_load (wsV RX5 231 RX5 yX5_lacks wsX5_lacks) := goodIn_app (goodIn_of _ (by decide +kernel)) ggX5_load_X5_lacks
set_option maxRecDepth 20000 in
theorem ggX5_load_X5_finding : GoodIn wsX5_load wsX5_finding := goodIn_r _ [21, 22, 9, 29, 30, 31, 32, 33, 34, 35, 36, 37, 38, 39, 40, 41, 42, 43, 44, 45, 46, 47, 48, 49, 50, 51] (by decide +kernel) (by decide +kernel)
set_option maxRecDepth 20000 in
theorem gX5_load_X5_finding : GoodIn wsX5_load (wsV RX5 76 RX5 yX5_finding wsX5_finding) := goodIn_app (goodIn_of _ (by decide +kernel)) ggX5_load_X5_finding
set_option maxRecDepth 20000 in
theorem ggX5_load_X5_isPlace : GoodIn wsX5_load wsX5_isPlace := goodIn_r _ [25, 15, 16, 7, 17] (by decide +kernel) (by decide +kernel)
set_option maxRecDepth 20000 in
theorem gX5_load_X5_isPlace : GoodIn wsX5_load (va_wsS RX5 88 yX5_isPlace wsX5_isPlace) := goodIn_app (goodIn_of _ (by decide +kernel)) ggX5_load_X5_isPlace
set_option maxRecDepth 20000 in
theorem ggX5_load_X5_isPrize : GoodIn wsX5_load wsX5_isPrize := goodIn_r _ [28, 15, 16, 7, 17] (by decide +kernel) (by decide +kernel)
set_option maxRecDepth 20000 in
theorem gX5_load_X5_isPrize : GoodIn wsX5_load (va_wsS RX5 92 yX5_isPrize wsX5_isPrize) := goodIn_app (goodIn_of _ (by decide +kernel)) ggX5_load_X5_isPrize
theorem dX5_load_0 : decode cX5_load 0 = .ok (.aload_n 0, 1) := by decide +kernel
theorem dX5_load_1 : decode cX5_load 1 = .ok (.iload_n 1, 1) := by decide +kernel
theorem dX5_load_2 : decode cX5_load 2 = .ok (.invokevirtual 231, 3) := by decide +kernel
theorem dX5_load_5 : decode cX5_load 5 = .ok (.ifCond .eq 13, 3) := by decide +kernel
theorem dX5_load_8 : decode cX5_load 8 = .ok (.aload_n 0, 1) := by decide +kernel
theorem dX5_load_9 : decode cX5_load 9 = .ok (.aload_n 0, 1) := by decide +kernel
theorem dX5_load_10 : decode cX5_load 10 = .ok (.iload_n 1, 1) := by decide +kernel
theorem dX5_load_11 : decode cX5_load 11 = .ok (.invokevirtual 231, 3) := by decide +kernel
theorem dX5_load_14 : decode cX5_load 14 = .ok (.invokevirtual 76, 3) := by decide +kernel
theorem dX5_load_17 : decode cX5_load 17 = .ok (.ireturn, 1) := by decide +kernel
theorem dX5_load_18 : decode cX5_load 18 = .ok (.iconst 0, 1) := by decide +kernel
theorem dX5_load_19 : decode cX5_load 19 = .ok (.istore_n 2, 1) := by decide +kernel
theorem dX5_load_20 : decode cX5_load 20 = .ok (.iload_n 2, 1) := by decide +kernel
theorem dX5_load_21 : decode cX5_load 21 = .ok (.aload_n 0, 1) := by decide +kernel
theorem dX5_load_22 : decode cX5_load 22 = .ok (.getfield 61, 3) := by decide +kernel
theorem dX5_load_25 : decode cX5_load 25 = .ok (.iload_n 1, 1) := by decide +kernel
theorem dX5_load_26 : decode cX5_load 26 = .ok (.iaload, 1) := by decide +kernel
theorem dX5_load_27 : decode cX5_load 27 = .ok (.if_icmp .ge 53, 3) := by decide +kernel
theorem dX5_load_30 : decode cX5_load 30 = .ok (.iload_n 2, 1) := by decide +kernel
theorem dX5_load_31 : decode cX5_load 31 = .ok (.invokestatic 88, 3) := by decide +kernel
theorem dX5_load_34 : decode cX5_load 34 = .ok (.ifCond .eq 46, 3) := by decide +kernel
theorem dX5_load_37 : decode cX5_load 37 = .ok (.aload_n 0, 1) := by decide +kernel
theorem dX5_load_38 : decode cX5_load 38 = .ok (.getfield 64, 3) := by decide +kernel
theorem dX5_load_41 : decode cX5_load 41 = .ok (.bipush 40, 2) := by decide +kernel
theorem dX5_load_43 : decode cX5_load 43 = .ok (.iload_n 1, 1) := by decide +kernel
theorem dX5_load_44 : decode cX5_load 44 = .ok (.imul, 1) := by decide +kernel
theorem dX5_load_45 : decode cX5_load 45 = .ok (.iload_n 2, 1) := by decide +kernel
theorem dX5_load_46 : decode cX5_load 46 = .ok (.iadd, 1) := by decide +kernel
theorem dX5_load_47 : decode cX5_load 47 = .ok (.iaload, 1) := by decide +kernel
theorem dX5_load_48 : decode cX5_load 48 = .ok (.invokestatic 92, 3) := by decide +kernel
theorem dX5_load_51 : decode cX5_load 51 = .ok (.ifCond .eq 29, 3) := by decide +kernel
theorem dX5_load_54 : decode cX5_load 54 = .ok (.aload_n 0, 1) := by decide +kernel
theorem dX5_load_55 : decode cX5_load 55 = .ok (.getfield 9, 3) := by decide +kernel
theorem dX5_load_58 : decode cX5_load 58 = .ok (.bipush 13, 2) := by decide +kernel
theorem dX5_load_60 : decode cX5_load 60 = .ok (.iload_n 2, 1) := by decide +kernel
theorem dX5_load_61 : decode cX5_load 61 = .ok (.iadd, 1) := by decide +kernel
theorem dX5_load_62 : decode cX5_load 62 = .ok (.aload_n 0, 1) := by decide +kernel
theorem dX5_load_63 : decode cX5_load 63 = .ok (.getfield 64, 3) := by decide +kernel
theorem dX5_load_66 : decode cX5_load 66 = .ok (.bipush 40, 2) := by decide +kernel
theorem dX5_load_68 : decode cX5_load 68 = .ok (.iload_n 1, 1) := by decide +kernel
theorem dX5_load_69 : decode cX5_load 69 = .ok (.imul, 1) := by decide +kernel
theorem dX5_load_70 : decode cX5_load 70 = .ok (.iload_n 2, 1) := by decide +kernel
theorem dX5_load_71 : decode cX5_load 71 = .ok (.iadd, 1) := by decide +kernel
theorem dX5_load_72 : decode cX5_load 72 = .ok (.iaload, 1) := by decide +kernel
theorem dX5_load_73 : decode cX5_load 73 = .ok (.iastore, 1) := by decide +kernel
theorem dX5_load_74 : decode cX5_load 74 = .ok (.iinc 2 1, 3) := by decide +kernel
theorem dX5_load_77 : decode cX5_load 77 = .ok (.goto (-57), 3) := by decide +kernel
theorem dX5_load_80 : decode cX5_load 80 = .ok (.iload_n 2, 1) := by decide +kernel
theorem dX5_load_81 : decode cX5_load 81 = .ok (.ireturn, 1) := by decide +kernel
set_option maxRecDepth 20000 in
theorem ggX5_judge_X5_lacks : GoodIn wsX5_judge wsX5_lacks := goodIn_r _ [8, 9, 10, 11, 12, 13, 7, 14, 15, 16, 17, 76, 77, 78, 79, 80, 81, 82, 83, 84, 85, 86, 87, 88, 89, 90, 91, 92, 93, 94, 95, 96, 97, 98] (by decide +kernel) (by decide +kernel)
set_option maxRecDepth 20000 in
theorem gX5_judge_X5_lacks : GoodIn wsX5_judge (wsV RX5 231 RX5 yX5_lacks wsX5_lacks) := goodIn_app (goodIn_of _ (by decide +kernel)) ggX5_judge_X5_lacks
set_option maxRecDepth 20000 in
theorem ggX5_judge_X5_finding : GoodIn wsX5_judge wsX5_finding := goodIn_r _ [21, 22, 9, 76, 77, 78, 79, 80, 81, 82, 83, 84, 85, 86, 87, 88, 89, 90, 91, 92, 93, 94, 95, 96, 97, 98] (by decide +kernel) (by decide +kernel)
set_option maxRecDepth 20000 in
theorem gX5_judge_X5_finding : GoodIn wsX5_judge (wsV RX5 76 RX5 yX5_finding wsX5_finding) := goodIn_app (goodIn_of _ (by decide +kernel)) ggX5_judge_X5_finding
set_option maxRecDepth 20000 in
theorem ggX5_judge_X5_looksAt : GoodIn wsX5_judge wsX5_looksAt := goodIn_r _ [26, 27, 3, 28, 29, 30, 31, 32, 7, 33, 34, 35, 36, 37, 38, 39, 40, 41, 42, 43, 44, 45, 46, 47, 48, 49, 50, 51, 52, 53, 54, 55, 56, 57, 58, 59, 60, 61, 62, 63, 64, 65, 66, 67, 68, 69, 70, 71, 76, 77, 78, 79, 80, 81, 82, 83, 84, 85, 86, 87, 88, 89, 90, 91, 92, 93, 94, 95, 96, 97, 98] (by decide +kernel) (by decide +kernel)
set_option maxRecDepth 20000 in
theorem gX5_judge_X5_looksAt : GoodIn wsX5_judge (wsV RX5 140 RX5 yX5_looksAt wsX5_looksAt) := goodIn_app (goodIn_of _ (by decide +kernel)) ggX5_judge_X5_looksAt
set_option maxRecDepth 20000 in
theorem ggX5_judge_X5_isPerson : GoodIn wsX5_judge wsX5_isPerson := goodIn_r _ [75, 27, 15, 16, 7, 17, 76, 77, 78, 79, 80, 81, 82, 83, 84, 85, 86, 87, 88, 89, 90, 91, 92, 93, 94, 95, 96, 97, 98] (by decide +kernel) (by decide +kernel)
set_option maxRecDepth 20000 in
theorem gX5_judge_X5_isPerson : GoodIn wsX5_judge (wsV RX5 143 RX5 yX5_isPerson wsX5_isPerson) := goodIn_app (goodIn_of _ (by decide +kernel)) ggX5_judge_X5_isPerson
theorem dX5_judge_0 : decode cX5_judge 0 = .ok (.aload_n 0, 1) := by decide +kernel
theorem dX5_judge_1 : decode cX5_judge 1 = .ok (.iload_n 1, 1) := by decide +kernel
theorem dX5_judge_2 : decode cX5_judge 2 = .ok (.invokevirtual 231, 3) := by decide +kernel
theorem dX5_judge_5 : decode cX5_judge 5 = .ok (.ifCond .eq 13, 3) := by decide +kernel
theorem dX5_judge_8 : decode cX5_judge 8 = .ok (.aload_n 0, 1) := by decide +kernel
theorem dX5_judge_9 : decode cX5_judge 9 = .ok (.aload_n 0, 1) := by decide +kernel
theorem dX5_judge_10 : decode cX5_judge 10 = .ok (.iload_n 1, 1) := by decide +kernel
theorem dX5_judge_11 : decode cX5_judge 11 = .ok (.invokevirtual 231, 3) := by decide +kernel
theorem dX5_judge_14 : decode cX5_judge 14 = .ok (.invokevirtual 76, 3) := by decide +kernel
theorem dX5_judge_17 : decode cX5_judge 17 = .ok (.ireturn, 1) := by decide +kernel
theorem dX5_judge_18 : decode cX5_judge 18 = .ok (.aload_n 0, 1) := by decide +kernel
theorem dX5_judge_19 : decode cX5_judge 19 = .ok (.invokevirtual 140, 3) := by decide +kernel
theorem dX5_judge_22 : decode cX5_judge 22 = .ok (.iconst 0, 1) := by decide +kernel
theorem dX5_judge_23 : decode cX5_judge 23 = .ok (.istore_n 2, 1) := by decide +kernel
theorem dX5_judge_24 : decode cX5_judge 24 = .ok (.iload_n 2, 1) := by decide +kernel
theorem dX5_judge_25 : decode cX5_judge 25 = .ok (.aload_n 0, 1) := by decide +kernel
theorem dX5_judge_26 : decode cX5_judge 26 = .ok (.getfield 61, 3) := by decide +kernel
theorem dX5_judge_29 : decode cX5_judge 29 = .ok (.iload_n 1, 1) := by decide +kernel
theorem dX5_judge_30 : decode cX5_judge 30 = .ok (.iaload, 1) := by decide +kernel
theorem dX5_judge_31 : decode cX5_judge 31 = .ok (.if_icmp .ge 37, 3) := by decide +kernel
theorem dX5_judge_34 : decode cX5_judge 34 = .ok (.aload_n 0, 1) := by decide +kernel
theorem dX5_judge_35 : decode cX5_judge 35 = .ok (.iload_n 2, 1) := by decide +kernel
theorem dX5_judge_36 : decode cX5_judge 36 = .ok (.invokevirtual 143, 3) := by decide +kernel
theorem dX5_judge_39 : decode cX5_judge 39 = .ok (.ifCond .eq 29, 3) := by decide +kernel
theorem dX5_judge_42 : decode cX5_judge 42 = .ok (.aload_n 0, 1) := by decide +kernel
theorem dX5_judge_43 : decode cX5_judge 43 = .ok (.getfield 64, 3) := by decide +kernel
theorem dX5_judge_46 : decode cX5_judge 46 = .ok (.bipush 40, 2) := by decide +kernel
theorem dX5_judge_48 : decode cX5_judge 48 = .ok (.iload_n 1, 1) := by decide +kernel
theorem dX5_judge_49 : decode cX5_judge 49 = .ok (.imul, 1) := by decide +kernel
theorem dX5_judge_50 : decode cX5_judge 50 = .ok (.iload_n 2, 1) := by decide +kernel
theorem dX5_judge_51 : decode cX5_judge 51 = .ok (.iadd, 1) := by decide +kernel
theorem dX5_judge_52 : decode cX5_judge 52 = .ok (.iaload, 1) := by decide +kernel
theorem dX5_judge_53 : decode cX5_judge 53 = .ok (.aload_n 0, 1) := by decide +kernel
theorem dX5_judge_54 : decode cX5_judge 54 = .ok (.getfield 22, 3) := by decide +kernel
theorem dX5_judge_57 : decode cX5_judge 57 = .ok (.iload_n 2, 1) := by decide +kernel
theorem dX5_judge_58 : decode cX5_judge 58 = .ok (.iaload, 1) := by decide +kernel
theorem dX5_judge_59 : decode cX5_judge 59 = .ok (.if_icmp .ne 9, 3) := by decide +kernel
theorem dX5_judge_62 : decode cX5_judge 62 = .ok (.iinc 2 1, 3) := by decide +kernel
theorem dX5_judge_65 : decode cX5_judge 65 = .ok (.goto (-41), 3) := by decide +kernel
theorem dX5_judge_68 : decode cX5_judge 68 = .ok (.iload_n 2, 1) := by decide +kernel
theorem dX5_judge_69 : decode cX5_judge 69 = .ok (.aload_n 0, 1) := by decide +kernel
theorem dX5_judge_70 : decode cX5_judge 70 = .ok (.getfield 61, 3) := by decide +kernel
theorem dX5_judge_73 : decode cX5_judge 73 = .ok (.iload_n 1, 1) := by decide +kernel
theorem dX5_judge_74 : decode cX5_judge 74 = .ok (.iaload, 1) := by decide +kernel
theorem dX5_judge_75 : decode cX5_judge 75 = .ok (.if_icmp .ne 7, 3) := by decide +kernel
theorem dX5_judge_78 : decode cX5_judge 78 = .ok (.iconst 0, 1) := by decide +kernel
theorem dX5_judge_79 : decode cX5_judge 79 = .ok (.goto 6, 3) := by decide +kernel
theorem dX5_judge_82 : decode cX5_judge 82 = .ok (.iconst 1, 1) := by decide +kernel
theorem dX5_judge_83 : decode cX5_judge 83 = .ok (.iload_n 2, 1) := by decide +kernel
theorem dX5_judge_84 : decode cX5_judge 84 = .ok (.iadd, 1) := by decide +kernel
theorem dX5_judge_85 : decode cX5_judge 85 = .ok (.ireturn, 1) := by decide +kernel
set_option maxRecDepth 20000 in
theorem ggX5_image_X5_copyRow : GoodIn wsX5_image wsX5_copyRow := goodIn_r _ [7] (by decide +kernel) (by decide +kernel)
set_option maxRecDepth 20000 in
theorem gX5_image_X5_copyRow : GoodIn wsX5_image (va_wsS RX5 71 yX5_copyRow wsX5_copyRow) := goodIn_app (goodIn_of _ (by decide +kernel)) ggX5_image_X5_copyRow
theorem dX5_image_0 : decode cX5_image 0 = .ok (.aload_n 0, 1) := by decide +kernel
theorem dX5_image_1 : decode cX5_image 1 = .ok (.getfield 9, 3) := by decide +kernel
theorem dX5_image_4 : decode cX5_image 4 = .ok (.aload_n 0, 1) := by decide +kernel
theorem dX5_image_5 : decode cX5_image 5 = .ok (.getfield 13, 3) := by decide +kernel
theorem dX5_image_8 : decode cX5_image 8 = .ok (.invokestatic 71, 3) := by decide +kernel
theorem dX5_image_11 : decode cX5_image 11 = .ok (.aload_n 0, 1) := by decide +kernel
theorem dX5_image_12 : decode cX5_image 12 = .ok (.iconst 1, 1) := by decide +kernel
theorem dX5_image_13 : decode cX5_image 13 = .ok (.putfield 328, 3) := by decide +kernel
theorem dX5_image_16 : decode cX5_image 16 = .ok (.iconst 1, 1) := by decide +kernel
theorem dX5_image_17 : decode cX5_image 17 = .ok (.ireturn, 1) := by decide +kernel
set_option maxRecDepth 20000 in
theorem ggX5_undo_X5_finding : GoodIn wsX5_undo wsX5_finding := goodIn_r _ [9, 10, 11, 15, 16, 17, 18, 19, 20, 21, 22, 23, 24, 25, 26, 27, 28, 29, 30, 31, 32, 33, 34, 35, 36, 37] (by decide +kernel) (by decide +kernel)
set_option maxRecDepth 20000 in
theorem gX5_undo_X5_finding : GoodIn wsX5_undo (wsV RX5 76 RX5 yX5_finding wsX5_finding) := goodIn_app (goodIn_of _ (by decide +kernel)) ggX5_undo_X5_finding
set_option maxRecDepth 20000 in
theorem ggX5_undo_X5_copyRow : GoodIn wsX5_undo wsX5_copyRow := goodIn_r _ [14] (by decide +kernel) (by decide +kernel)
set_option maxRecDepth 20000 in
theorem gX5_undo_X5_copyRow : GoodIn wsX5_undo (va_wsS RX5 71 yX5_copyRow wsX5_copyRow) := goodIn_app (goodIn_of _ (by decide +kernel)) ggX5_undo_X5_copyRow
theorem dX5_undo_0 : decode cX5_undo 0 = .ok (.aload_n 0, 1) := by decide +kernel
theorem dX5_undo_1 : decode cX5_undo 1 = .ok (.getfield 328, 3) := by decide +kernel
theorem dX5_undo_4 : decode cX5_undo 4 = .ok (.ifCond .ne 10, 3) := by decide +kernel
theorem dX5_undo_7 : decode cX5_undo 7 = .ok (.aload_n 0, 1) := by decide +kernel
theorem dX5_undo_8 : decode cX5_undo 8 = .ok (.ldc 75, 2) := by decide +kernel
theorem dX5_undo_10 : decode cX5_undo 10 = .ok (.invokevirtual 76, 3) := by decide +kernel
theorem dX5_undo_13 : decode cX5_undo 13 = .ok (.ireturn, 1) := by decide +kernel
theorem dX5_undo_14 : decode cX5_undo 14 = .ok (.aload_n 0, 1) := by decide +kernel
theorem dX5_undo_15 : decode cX5_undo 15 = .ok (.getfield 13, 3) := by decide +kernel
theorem dX5_undo_18 : decode cX5_undo 18 = .ok (.aload_n 0, 1) := by decide +kernel
theorem dX5_undo_19 : decode cX5_undo 19 = .ok (.getfield 9, 3) := by decide +kernel
theorem dX5_undo_22 : decode cX5_undo 22 = .ok (.invokestatic 71, 3) := by decide +kernel
theorem dX5_undo_25 : decode cX5_undo 25 = .ok (.aload_n 0, 1) := by decide +kernel
theorem dX5_undo_26 : decode cX5_undo 26 = .ok (.getfield 9, 3) := by decide +kernel
theorem dX5_undo_29 : decode cX5_undo 29 = .ok (.iconst 0, 1) := by decide +kernel
theorem dX5_undo_30 : decode cX5_undo 30 = .ok (.iaload, 1) := by decide +kernel
theorem dX5_undo_31 : decode cX5_undo 31 = .ok (.ireturn, 1) := by decide +kernel
theorem dX5_tear_0 : decode cX5_tear 0 = .ok (.aload_n 0, 1) := by decide +kernel
theorem dX5_tear_1 : decode cX5_tear 1 = .ok (.getfield 328, 3) := by decide +kernel
theorem dX5_tear_4 : decode cX5_tear 4 = .ok (.ifCond .eq 7, 3) := by decide +kernel
theorem dX5_tear_7 : decode cX5_tear 7 = .ok (.iconst 1, 1) := by decide +kernel
theorem dX5_tear_8 : decode cX5_tear 8 = .ok (.goto 4, 3) := by decide +kernel
theorem dX5_tear_11 : decode cX5_tear 11 = .ok (.iconst 0, 1) := by decide +kernel
theorem dX5_tear_12 : decode cX5_tear 12 = .ok (.istore_n 1, 1) := by decide +kernel
theorem dX5_tear_13 : decode cX5_tear 13 = .ok (.aload_n 0, 1) := by decide +kernel
theorem dX5_tear_14 : decode cX5_tear 14 = .ok (.iconst 0, 1) := by decide +kernel
theorem dX5_tear_15 : decode cX5_tear 15 = .ok (.putfield 328, 3) := by decide +kernel
theorem dX5_tear_18 : decode cX5_tear 18 = .ok (.iload_n 1, 1) := by decide +kernel
theorem dX5_tear_19 : decode cX5_tear 19 = .ok (.ireturn, 1) := by decide +kernel
set_option maxRecDepth 20000 in
theorem ggX5_count_X5_whoRegrets : GoodIn wsX5_count wsX5_whoRegrets := goodIn_r _ [8, 1, 9, 10, 11, 7, 12, 13, 14, 15, 16, 17, 18, 19, 20, 21, 22, 23, 24, 25, 26, 27, 28, 29, 30, 31, 32, 33, 34, 35, 36, 37, 38, 39, 40, 41, 42, 43, 44, 45, 46, 47, 48, 49, 50, 51, 52, 53, 54, 55, 56, 57, 58, 59, 60, 61, 75, 76, 77, 78, 79, 80, 81, 82, 83, 84, 85, 86, 87, 88, 89, 90, 91, 92, 93, 94, 95, 96, 97] (by decide +kernel) (by decide +kernel)
set_option maxRecDepth 20000 in
theorem gX5_count_X5_whoRegrets : GoodIn wsX5_count (wsV RX5 168 RX5 yX5_whoRegrets wsX5_whoRegrets) := goodIn_app (goodIn_of _ (by decide +kernel)) ggX5_count_X5_whoRegrets
set_option maxRecDepth 20000 in
theorem ggX5_count_X5_bits : GoodIn wsX5_count wsX5_bits := goodIn_r _ [41] (by decide +kernel) (by decide +kernel)
set_option maxRecDepth 20000 in
theorem gX5_count_X5_bits : GoodIn wsX5_count (va_wsS RX5 112 yX5_bits wsX5_bits) := goodIn_app (goodIn_of _ (by decide +kernel)) ggX5_count_X5_bits
set_option maxRecDepth 20000 in
theorem ggX5_count_X5_comePlaces : GoodIn wsX5_count wsX5_comePlaces := goodIn_r _ [65, 1, 13, 9, 10, 11, 7, 12, 14, 15, 16, 17, 18, 19, 20, 21, 22, 23, 24, 25, 26, 27, 28, 29, 30, 31, 32, 33, 34, 35, 36, 37, 38, 39, 40, 41, 42, 43, 44, 45, 46, 47, 48, 49, 50, 51, 52, 53, 54, 55, 56, 57, 75, 76, 77, 78, 79, 80, 81, 82, 83, 84, 85, 86, 87, 88, 89, 90, 91, 92, 93, 94, 95, 96, 97] (by decide +kernel) (by decide +kernel)
set_option maxRecDepth 20000 in
theorem gX5_count_X5_comePlaces : GoodIn wsX5_count (wsV RX5 171 RX5 yX5_comePlaces wsX5_comePlaces) := goodIn_app (goodIn_of _ (by decide +kernel)) ggX5_count_X5_comePlaces
set_option maxRecDepth 20000 in
theorem ggX5_count_X5_goodsAll : GoodIn wsX5_count wsX5_goodsAll := goodIn_r _ [69, 1, 20, 21, 22, 7, 23, 24, 25, 26, 75, 76, 77, 78, 79, 80, 81, 82, 83, 84, 85, 86, 87, 88, 89, 90, 91, 92, 93, 94, 95, 96, 97] (by decide +kernel) (by decide +kernel)
set_option maxRecDepth 20000 in
theorem gX5_count_X5_goodsAll : GoodIn wsX5_count (wsV RX5 164 RX5 yX5_goodsAll wsX5_goodsAll) := goodIn_app (goodIn_of _ (by decide +kernel)) ggX5_count_X5_goodsAll
set_option maxRecDepth 20000 in
theorem ggX5_count_X5_finding : GoodIn wsX5_count wsX5_finding := goodIn_r _ [73, 74, 3, 75, 76, 77, 78, 79, 80, 81, 82, 83, 84, 85, 86, 87, 88, 89, 90, 91, 92, 93, 94, 95, 96, 97] (by decide +kernel) (by decide +kernel)
set_option maxRecDepth 20000 in
theorem gX5_count_X5_finding : GoodIn wsX5_count (wsV RX5 76 RX5 yX5_finding wsX5_finding) := goodIn_app (goodIn_of _ (by decide +kernel)) ggX5_count_X5_finding
theorem dX5_count_0 : decode cX5_count 0 = .ok (.iconst 0, 1) := by decide +kernel
theorem dX5_count_1 : decode cX5_count 1 = .ok (.istore_n 2, 1) := by decide +kernel
theorem dX5_count_2 : decode cX5_count 2 = .ok (.iload_n 1, 1) := by decide +kernel
theorem dX5_count_3 : decode cX5_count 3 = .ok (.tableswitch 127 0 7 #[45, 52, 59, 67, 75, 80, 85, 92], 45) := by decide +kernel
theorem dX5_count_48 : decode cX5_count 48 = .ok (.aload_n 0, 1) := by decide +kernel
theorem dX5_count_49 : decode cX5_count 49 = .ok (.getfield 9, 3) := by decide +kernel
theorem dX5_count_52 : decode cX5_count 52 = .ok (.iconst 0, 1) := by decide +kernel
theorem dX5_count_53 : decode cX5_count 53 = .ok (.iaload, 1) := by decide +kernel
theorem dX5_count_54 : decode cX5_count 54 = .ok (.ireturn, 1) := by decide +kernel
theorem dX5_count_55 : decode cX5_count 55 = .ok (.aload_n 0, 1) := by decide +kernel
theorem dX5_count_56 : decode cX5_count 56 = .ok (.getfield 9, 3) := by decide +kernel
theorem dX5_count_59 : decode cX5_count 59 = .ok (.iconst 1, 1) := by decide +kernel
theorem dX5_count_60 : decode cX5_count 60 = .ok (.iaload, 1) := by decide +kernel
theorem dX5_count_61 : decode cX5_count 61 = .ok (.ireturn, 1) := by decide +kernel
theorem dX5_count_62 : decode cX5_count 62 = .ok (.aload_n 0, 1) := by decide +kernel
theorem dX5_count_63 : decode cX5_count 63 = .ok (.invokevirtual 168, 3) := by decide +kernel
theorem dX5_count_66 : decode cX5_count 66 = .ok (.invokestatic 112, 3) := by decide +kernel
theorem dX5_count_69 : decode cX5_count 69 = .ok (.ireturn, 1) := by decide +kernel
theorem dX5_count_70 : decode cX5_count 70 = .ok (.aload_n 0, 1) := by decide +kernel
theorem dX5_count_71 : decode cX5_count 71 = .ok (.invokevirtual 171, 3) := by decide +kernel
theorem dX5_count_74 : decode cX5_count 74 = .ok (.invokestatic 112, 3) := by decide +kernel
theorem dX5_count_77 : decode cX5_count 77 = .ok (.ireturn, 1) := by decide +kernel
theorem dX5_count_78 : decode cX5_count 78 = .ok (.aload_n 0, 1) := by decide +kernel
theorem dX5_count_79 : decode cX5_count 79 = .ok (.invokevirtual 164, 3) := by decide +kernel
theorem dX5_count_82 : decode cX5_count 82 = .ok (.ireturn, 1) := by decide +kernel
theorem dX5_count_83 : decode cX5_count 83 = .ok (.aload_n 0, 1) := by decide +kernel
theorem dX5_count_84 : decode cX5_count 84 = .ok (.getfield 241, 3) := by decide +kernel
theorem dX5_count_87 : decode cX5_count 87 = .ok (.ireturn, 1) := by decide +kernel
theorem dX5_count_88 : decode cX5_count 88 = .ok (.aload_n 0, 1) := by decide +kernel
theorem dX5_count_89 : decode cX5_count 89 = .ok (.getfield 9, 3) := by decide +kernel
theorem dX5_count_92 : decode cX5_count 92 = .ok (.iconst 2, 1) := by decide +kernel
theorem dX5_count_93 : decode cX5_count 93 = .ok (.iaload, 1) := by decide +kernel
theorem dX5_count_94 : decode cX5_count 94 = .ok (.ireturn, 1) := by decide +kernel
theorem dX5_count_95 : decode cX5_count 95 = .ok (.iconst 0, 1) := by decide +kernel
theorem dX5_count_96 : decode cX5_count 96 = .ok (.istore_n 3, 1) := by decide +kernel
theorem dX5_count_97 : decode cX5_count 97 = .ok (.iload_n 3, 1) := by decide +kernel
theorem dX5_count_98 : decode cX5_count 98 = .ok (.bipush 10, 2) := by decide +kernel
theorem dX5_count_100 : decode cX5_count 100 = .ok (.if_icmp .ge 28, 3) := by decide +kernel
theorem dX5_count_103 : decode cX5_count 103 = .ok (.iload_n 2, 1) := by decide +kernel
theorem dX5_count_104 : decode cX5_count 104 = .ok (.aload_n 0, 1) := by decide +kernel
theorem dX5_count_105 : decode cX5_count 105 = .ok (.getfield 9, 3) := by decide +kernel
theorem dX5_count_108 : decode cX5_count 108 = .ok (.iconst 3, 1) := by decide +kernel
theorem dX5_count_109 : decode cX5_count 109 = .ok (.iload_n 3, 1) := by decide +kernel
theorem dX5_count_110 : decode cX5_count 110 = .ok (.iadd, 1) := by decide +kernel
theorem dX5_count_111 : decode cX5_count 111 = .ok (.iaload, 1) := by decide +kernel
theorem dX5_count_112 : decode cX5_count 112 = .ok (.ifCond .ge 7, 3) := by decide +kernel
theorem dX5_count_115 : decode cX5_count 115 = .ok (.iconst 0, 1) := by decide +kernel
theorem dX5_count_116 : decode cX5_count 116 = .ok (.goto 4, 3) := by decide +kernel
theorem dX5_count_119 : decode cX5_count 119 = .ok (.iconst 1, 1) := by decide +kernel
theorem dX5_count_120 : decode cX5_count 120 = .ok (.iadd, 1) := by decide +kernel
theorem dX5_count_121 : decode cX5_count 121 = .ok (.istore_n 2, 1) := by decide +kernel
theorem dX5_count_122 : decode cX5_count 122 = .ok (.iinc 3 1, 3) := by decide +kernel
theorem dX5_count_125 : decode cX5_count 125 = .ok (.goto (-28), 3) := by decide +kernel
theorem dX5_count_128 : decode cX5_count 128 = .ok (.iload_n 2, 1) := by decide +kernel
theorem dX5_count_129 : decode cX5_count 129 = .ok (.ireturn, 1) := by decide +kernel
theorem dX5_count_130 : decode cX5_count 130 = .ok (.aload_n 0, 1) := by decide +kernel
theorem dX5_count_131 : decode cX5_count 131 = .ok (.ldc 70, 2) := by decide +kernel
theorem dX5_count_133 : decode cX5_count 133 = .ok (.invokevirtual 76, 3) := by decide +kernel
theorem dX5_count_136 : decode cX5_count 136 = .ok (.ireturn, 1) := by decide +kernel
set_option maxRecDepth 20000 in
theorem ggX5_status_X5_within : GoodIn wsX5_status wsX5_within := goodIn_r _ [6] (by decide +kernel) (by decide +kernel)
set_option maxRecDepth 20000 in
theorem gX5_status_X5_within : GoodIn wsX5_status (va_wsS RX5 80 yX5_within wsX5_within) := goodIn_app (goodIn_of _ (by decide +kernel)) ggX5_status_X5_within
set_option maxRecDepth 20000 in
theorem ggX5_status_X5_finding : GoodIn wsX5_status wsX5_finding := goodIn_r _ [10, 1, 2, 11, 12, 13, 14, 15, 16, 17, 18, 19, 20, 21, 22, 23, 24, 25, 26, 27, 28, 29, 30, 31, 32, 33] (by decide +kernel) (by decide +kernel)
set_option maxRecDepth 20000 in
theorem gX5_status_X5_finding : GoodIn wsX5_status (wsV RX5 76 RX5 yX5_finding wsX5_finding) := goodIn_app (goodIn_of _ (by decide +kernel)) ggX5_status_X5_finding
theorem dX5_status_0 : decode cX5_status 0 = .ok (.iload_n 1, 1) := by decide +kernel
theorem dX5_status_1 : decode cX5_status 1 = .ok (.iconst (-1), 1) := by decide +kernel
theorem dX5_status_2 : decode cX5_status 2 = .ok (.bipush 6, 2) := by decide +kernel
theorem dX5_status_4 : decode cX5_status 4 = .ok (.invokestatic 80, 3) := by decide +kernel
theorem dX5_status_7 : decode cX5_status 7 = .ok (.ifCond .eq 14, 3) := by decide +kernel
theorem dX5_status_10 : decode cX5_status 10 = .ok (.aload_n 0, 1) := by decide +kernel
theorem dX5_status_11 : decode cX5_status 11 = .ok (.getfield 19, 3) := by decide +kernel
theorem dX5_status_14 : decode cX5_status 14 = .ok (.iload_n 1, 1) := by decide +kernel
theorem dX5_status_15 : decode cX5_status 15 = .ok (.iconst 1, 1) := by decide +kernel
theorem dX5_status_16 : decode cX5_status 16 = .ok (.iadd, 1) := by decide +kernel
theorem dX5_status_17 : decode cX5_status 17 = .ok (.iaload, 1) := by decide +kernel
theorem dX5_status_18 : decode cX5_status 18 = .ok (.goto 9, 3) := by decide +kernel
theorem dX5_status_21 : decode cX5_status 21 = .ok (.aload_n 0, 1) := by decide +kernel
theorem dX5_status_22 : decode cX5_status 22 = .ok (.ldc 70, 2) := by decide +kernel
theorem dX5_status_24 : decode cX5_status 24 = .ok (.invokevirtual 76, 3) := by decide +kernel
theorem dX5_status_27 : decode cX5_status 27 = .ok (.ireturn, 1) := by decide +kernel
theorem dJ6_bitCount_0f7a4_0 : decode cJ6_bitCount_0f7a4 0 = .ok (.iload_n 0, 1) := by decide +kernel
theorem dJ6_bitCount_0f7a4_1 : decode cJ6_bitCount_0f7a4 1 = .ok (.iload_n 0, 1) := by decide +kernel
theorem dJ6_bitCount_0f7a4_2 : decode cJ6_bitCount_0f7a4 2 = .ok (.iconst 1, 1) := by decide +kernel
theorem dJ6_bitCount_0f7a4_3 : decode cJ6_bitCount_0f7a4 3 = .ok (.iushr, 1) := by decide +kernel
theorem dJ6_bitCount_0f7a4_4 : decode cJ6_bitCount_0f7a4 4 = .ok (.ldc_w 265, 3) := by decide +kernel
theorem dJ6_bitCount_0f7a4_7 : decode cJ6_bitCount_0f7a4 7 = .ok (.iand, 1) := by decide +kernel
theorem dJ6_bitCount_0f7a4_8 : decode cJ6_bitCount_0f7a4 8 = .ok (.isub, 1) := by decide +kernel
theorem dJ6_bitCount_0f7a4_9 : decode cJ6_bitCount_0f7a4 9 = .ok (.istore_n 0, 1) := by decide +kernel
theorem dJ6_bitCount_0f7a4_10 : decode cJ6_bitCount_0f7a4 10 = .ok (.iload_n 0, 1) := by decide +kernel
theorem dJ6_bitCount_0f7a4_11 : decode cJ6_bitCount_0f7a4 11 = .ok (.ldc_w 266, 3) := by decide +kernel
theorem dJ6_bitCount_0f7a4_14 : decode cJ6_bitCount_0f7a4 14 = .ok (.iand, 1) := by decide +kernel
theorem dJ6_bitCount_0f7a4_15 : decode cJ6_bitCount_0f7a4 15 = .ok (.iload_n 0, 1) := by decide +kernel
theorem dJ6_bitCount_0f7a4_16 : decode cJ6_bitCount_0f7a4 16 = .ok (.iconst 2, 1) := by decide +kernel
theorem dJ6_bitCount_0f7a4_17 : decode cJ6_bitCount_0f7a4 17 = .ok (.iushr, 1) := by decide +kernel
theorem dJ6_bitCount_0f7a4_18 : decode cJ6_bitCount_0f7a4 18 = .ok (.ldc_w 266, 3) := by decide +kernel
theorem dJ6_bitCount_0f7a4_21 : decode cJ6_bitCount_0f7a4 21 = .ok (.iand, 1) := by decide +kernel
theorem dJ6_bitCount_0f7a4_22 : decode cJ6_bitCount_0f7a4 22 = .ok (.iadd, 1) := by decide +kernel
theorem dJ6_bitCount_0f7a4_23 : decode cJ6_bitCount_0f7a4 23 = .ok (.istore_n 0, 1) := by decide +kernel
theorem dJ6_bitCount_0f7a4_24 : decode cJ6_bitCount_0f7a4 24 = .ok (.iload_n 0, 1) := by decide +kernel
theorem dJ6_bitCount_0f7a4_25 : decode cJ6_bitCount_0f7a4 25 = .ok (.iload_n 0, 1) := by decide +kernel
theorem dJ6_bitCount_0f7a4_26 : decode cJ6_bitCount_0f7a4 26 = .ok (.iconst 4, 1) := by decide +kernel
theorem dJ6_bitCount_0f7a4_27 : decode cJ6_bitCount_0f7a4 27 = .ok (.iushr, 1) := by decide +kernel
theorem dJ6_bitCount_0f7a4_28 : decode cJ6_bitCount_0f7a4 28 = .ok (.iadd, 1) := by decide +kernel
theorem dJ6_bitCount_0f7a4_29 : decode cJ6_bitCount_0f7a4 29 = .ok (.ldc_w 267, 3) := by decide +kernel
theorem dJ6_bitCount_0f7a4_32 : decode cJ6_bitCount_0f7a4 32 = .ok (.iand, 1) := by decide +kernel
theorem dJ6_bitCount_0f7a4_33 : decode cJ6_bitCount_0f7a4 33 = .ok (.istore_n 0, 1) := by decide +kernel
theorem dJ6_bitCount_0f7a4_34 : decode cJ6_bitCount_0f7a4 34 = .ok (.iload_n 0, 1) := by decide +kernel
theorem dJ6_bitCount_0f7a4_35 : decode cJ6_bitCount_0f7a4 35 = .ok (.iload_n 0, 1) := by decide +kernel
theorem dJ6_bitCount_0f7a4_36 : decode cJ6_bitCount_0f7a4 36 = .ok (.bipush 8, 2) := by decide +kernel
theorem dJ6_bitCount_0f7a4_38 : decode cJ6_bitCount_0f7a4 38 = .ok (.iushr, 1) := by decide +kernel
theorem dJ6_bitCount_0f7a4_39 : decode cJ6_bitCount_0f7a4 39 = .ok (.iadd, 1) := by decide +kernel
theorem dJ6_bitCount_0f7a4_40 : decode cJ6_bitCount_0f7a4 40 = .ok (.istore_n 0, 1) := by decide +kernel
theorem dJ6_bitCount_0f7a4_41 : decode cJ6_bitCount_0f7a4 41 = .ok (.iload_n 0, 1) := by decide +kernel
theorem dJ6_bitCount_0f7a4_42 : decode cJ6_bitCount_0f7a4 42 = .ok (.iload_n 0, 1) := by decide +kernel
theorem dJ6_bitCount_0f7a4_43 : decode cJ6_bitCount_0f7a4 43 = .ok (.bipush 16, 2) := by decide +kernel
theorem dJ6_bitCount_0f7a4_45 : decode cJ6_bitCount_0f7a4 45 = .ok (.iushr, 1) := by decide +kernel
theorem dJ6_bitCount_0f7a4_46 : decode cJ6_bitCount_0f7a4 46 = .ok (.iadd, 1) := by decide +kernel
theorem dJ6_bitCount_0f7a4_47 : decode cJ6_bitCount_0f7a4 47 = .ok (.istore_n 0, 1) := by decide +kernel
theorem dJ6_bitCount_0f7a4_48 : decode cJ6_bitCount_0f7a4 48 = .ok (.iload_n 0, 1) := by decide +kernel
theorem dJ6_bitCount_0f7a4_49 : decode cJ6_bitCount_0f7a4 49 = .ok (.bipush 63, 2) := by decide +kernel
theorem dJ6_bitCount_0f7a4_51 : decode cJ6_bitCount_0f7a4 51 = .ok (.iand, 1) := by decide +kernel
theorem dJ6_bitCount_0f7a4_52 : decode cJ6_bitCount_0f7a4 52 = .ok (.ireturn, 1) := by decide +kernel
theorem dJ9_abs_0f7a4_0 : decode cJ9_abs_0f7a4 0 = .ok (.iload_n 0, 1) := by decide +kernel
theorem dJ9_abs_0f7a4_1 : decode cJ9_abs_0f7a4 1 = .ok (.ifCond .ge 8, 3) := by decide +kernel
theorem dJ9_abs_0f7a4_4 : decode cJ9_abs_0f7a4 4 = .ok (.iload_n 0, 1) := by decide +kernel
theorem dJ9_abs_0f7a4_5 : decode cJ9_abs_0f7a4 5 = .ok (.ineg, 1) := by decide +kernel
theorem dJ9_abs_0f7a4_6 : decode cJ9_abs_0f7a4 6 = .ok (.goto 4, 3) := by decide +kernel
theorem dJ9_abs_0f7a4_9 : decode cJ9_abs_0f7a4 9 = .ok (.iload_n 0, 1) := by decide +kernel
theorem dJ9_abs_0f7a4_10 : decode cJ9_abs_0f7a4 10 = .ok (.ireturn, 1) := by decide +kernel
theorem dJ9_max_7cf53_0 : decode cJ9_max_7cf53 0 = .ok (.iload_n 0, 1) := by decide +kernel
theorem dJ9_max_7cf53_1 : decode cJ9_max_7cf53 1 = .ok (.iload_n 1, 1) := by decide +kernel
theorem dJ9_max_7cf53_2 : decode cJ9_max_7cf53 2 = .ok (.if_icmp .lt 7, 3) := by decide +kernel
theorem dJ9_max_7cf53_5 : decode cJ9_max_7cf53 5 = .ok (.iload_n 0, 1) := by decide +kernel
theorem dJ9_max_7cf53_6 : decode cJ9_max_7cf53 6 = .ok (.goto 4, 3) := by decide +kernel
theorem dJ9_max_7cf53_9 : decode cJ9_max_7cf53 9 = .ok (.iload_n 1, 1) := by decide +kernel
theorem dJ9_max_7cf53_10 : decode cJ9_max_7cf53 10 = .ok (.ireturn, 1) := by decide +kernel
theorem dJ9_min_7cf53_0 : decode cJ9_min_7cf53 0 = .ok (.iload_n 0, 1) := by decide +kernel
theorem dJ9_min_7cf53_1 : decode cJ9_min_7cf53 1 = .ok (.iload_n 1, 1) := by decide +kernel
theorem dJ9_min_7cf53_2 : decode cJ9_min_7cf53 2 = .ok (.if_icmp .gt 7, 3) := by decide +kernel
theorem dJ9_min_7cf53_5 : decode cJ9_min_7cf53 5 = .ok (.iload_n 0, 1) := by decide +kernel
theorem dJ9_min_7cf53_6 : decode cJ9_min_7cf53 6 = .ok (.goto 4, 3) := by decide +kernel
theorem dJ9_min_7cf53_9 : decode cJ9_min_7cf53 9 = .ok (.iload_n 1, 1) := by decide +kernel
theorem dJ9_min_7cf53_10 : decode cJ9_min_7cf53 10 = .ok (.ireturn, 1) := by decide +kernel
set_option maxRecDepth 20000 in
theorem ggJ0_length_8abf5_J0_coder_7d493 : GoodIn wsJ0_length_8abf5 wsJ0_coder_7d493 := goodIn_r _ [6, 7, 8] (by decide +kernel) (by decide +kernel)
set_option maxRecDepth 20000 in
theorem gJ0_length_8abf5_J0_coder_7d493 : GoodIn wsJ0_length_8abf5 (wsV RJ0 335 RJ0 yJ0_coder_7d493 wsJ0_coder_7d493) := goodIn_app (goodIn_of _ (by decide +kernel)) ggJ0_length_8abf5_J0_coder_7d493
theorem dJ0_length_8abf5_0 : decode cJ0_length_8abf5 0 = .ok (.aload_n 0, 1) := by decide +kernel
theorem dJ0_length_8abf5_1 : decode cJ0_length_8abf5 1 = .ok (.getfield 9, 3) := by decide +kernel
theorem dJ0_length_8abf5_4 : decode cJ0_length_8abf5 4 = .ok (.arraylength, 1) := by decide +kernel
theorem dJ0_length_8abf5_5 : decode cJ0_length_8abf5 5 = .ok (.aload_n 0, 1) := by decide +kernel
theorem dJ0_length_8abf5_6 : decode cJ0_length_8abf5 6 = .ok (.invokevirtual 335, 3) := by decide +kernel
theorem dJ0_length_8abf5_9 : decode cJ0_length_8abf5 9 = .ok (.ishr, 1) := by decide +kernel
theorem dJ0_length_8abf5_10 : decode cJ0_length_8abf5 10 = .ok (.ireturn, 1) := by decide +kernel
set_option maxRecDepth 20000 in
theorem ggJ0_charAt_5068e_J0_isLatin1_aae02 : GoodIn wsJ0_charAt_5068e wsJ0_isLatin1_aae02 := goodIn_r _ [6, 7, 8] (by decide +kernel) (by decide +kernel)
set_option maxRecDepth 20000 in
theorem gJ0_charAt_5068e_J0_isLatin1_aae02 : GoodIn wsJ0_charAt_5068e (wsV RJ0 492 RJ0 yJ0_isLatin1_aae02 wsJ0_isLatin1_aae02) := goodIn_app (goodIn_of _ (by decide +kernel)) ggJ0_charAt_5068e_J0_isLatin1_aae02
set_option maxRecDepth 20000 in
theorem ggJ0_charAt_5068e_J1_charAt_3b067 : GoodIn wsJ0_charAt_5068e wsJ1_charAt_3b067 := goodIn_r _ [12, 13, 14, 5, 15, 16, 17, 18, 19, 20] (by decide +kernel) (by decide +kernel)
set_option maxRecDepth 20000 in
theorem gJ0_charAt_5068e_J1_charAt_3b067 : GoodIn wsJ0_charAt_5068e (va_wsS RJ0 495 yJ1_charAt_3b067 wsJ1_charAt_3b067) := goodIn_app (goodIn_of _ (by decide +kernel)) ggJ0_charAt_5068e_J1_charAt_3b067
set_option maxRecDepth 20000 in
theorem ggJ0_charAt_5068e_J2_charAt_3b067 : GoodIn wsJ0_charAt_5068e wsJ2_charAt_3b067 := goodIn_r _ [24, 25, 26, 23, 27, 28, 29, 30, 31, 14, 5, 15, 16, 17, 18, 19, 20, 32, 33, 34, 35, 36, 37] (by decide +kernel) (by decide +kernel)
set_option maxRecDepth 20000 in
theorem gJ0_charAt_5068e_J2_charAt_3b067 : GoodIn wsJ0_charAt_5068e (va_wsS RJ0 498 yJ2_charAt_3b067 wsJ2_charAt_3b067) := goodIn_app (goodIn_of _ (by decide +kernel)) ggJ0_charAt_5068e_J2_charAt_3b067
theorem dJ0_charAt_5068e_0 : decode cJ0_charAt_5068e 0 = .ok (.aload_n 0, 1) := by decide +kernel
theorem dJ0_charAt_5068e_1 : decode cJ0_charAt_5068e 1 = .ok (.invokevirtual 492, 3) := by decide +kernel
theorem dJ0_charAt_5068e_4 : decode cJ0_charAt_5068e 4 = .ok (.ifCond .eq 12, 3) := by decide +kernel
theorem dJ0_charAt_5068e_7 : decode cJ0_charAt_5068e 7 = .ok (.aload_n 0, 1) := by decide +kernel
theorem dJ0_charAt_5068e_8 : decode cJ0_charAt_5068e 8 = .ok (.getfield 9, 3) := by decide +kernel
theorem dJ0_charAt_5068e_11 : decode cJ0_charAt_5068e 11 = .ok (.iload_n 1, 1) := by decide +kernel
theorem dJ0_charAt_5068e_12 : decode cJ0_charAt_5068e 12 = .ok (.invokestatic 495, 3) := by decide +kernel
theorem dJ0_charAt_5068e_15 : decode cJ0_charAt_5068e 15 = .ok (.ireturn, 1) := by decide +kernel
theorem dJ0_charAt_5068e_16 : decode cJ0_charAt_5068e 16 = .ok (.aload_n 0, 1) := by decide +kernel
theorem dJ0_charAt_5068e_17 : decode cJ0_charAt_5068e 17 = .ok (.getfield 9, 3) := by decide +kernel
theorem dJ0_charAt_5068e_20 : decode cJ0_charAt_5068e 20 = .ok (.iload_n 1, 1) := by decide +kernel
theorem dJ0_charAt_5068e_21 : decode cJ0_charAt_5068e 21 = .ok (.invokestatic 498, 3) := by decide +kernel
theorem dJ0_charAt_5068e_24 : decode cJ0_charAt_5068e 24 = .ok (.ireturn, 1) := by decide +kernel
theorem dJ0_coder_7d493_0 : decode cJ0_coder_7d493 0 = .ok (.getstatic 38, 3) := by decide +kernel
theorem dJ0_coder_7d493_3 : decode cJ0_coder_7d493 3 = .ok (.ifCond .eq 10, 3) := by decide +kernel
theorem dJ0_coder_7d493_6 : decode cJ0_coder_7d493 6 = .ok (.aload_n 0, 1) := by decide +kernel
theorem dJ0_coder_7d493_7 : decode cJ0_coder_7d493 7 = .ok (.getfield 15, 3) := by decide +kernel
theorem dJ0_coder_7d493_10 : decode cJ0_coder_7d493 10 = .ok (.goto 4, 3) := by decide +kernel
theorem dJ0_coder_7d493_13 : decode cJ0_coder_7d493 13 = .ok (.iconst 1, 1) := by decide +kernel
theorem dJ0_coder_7d493_14 : decode cJ0_coder_7d493 14 = .ok (.ireturn, 1) := by decide +kernel
theorem dJ0_isLatin1_aae02_0 : decode cJ0_isLatin1_aae02 0 = .ok (.getstatic 38, 3) := by decide +kernel
theorem dJ0_isLatin1_aae02_3 : decode cJ0_isLatin1_aae02 3 = .ok (.ifCond .eq 14, 3) := by decide +kernel
theorem dJ0_isLatin1_aae02_6 : decode cJ0_isLatin1_aae02 6 = .ok (.aload_n 0, 1) := by decide +kernel
theorem dJ0_isLatin1_aae02_7 : decode cJ0_isLatin1_aae02 7 = .ok (.getfield 15, 3) := by decide +kernel
theorem dJ0_isLatin1_aae02_10 : decode cJ0_isLatin1_aae02 10 = .ok (.ifCond .ne 7, 3) := by decide +kernel
theorem dJ0_isLatin1_aae02_13 : decode cJ0_isLatin1_aae02 13 = .ok (.iconst 1, 1) := by decide +kernel
theorem dJ0_isLatin1_aae02_14 : decode cJ0_isLatin1_aae02 14 = .ok (.goto 4, 3) := by decide +kernel
theorem dJ0_isLatin1_aae02_17 : decode cJ0_isLatin1_aae02 17 = .ok (.iconst 0, 1) := by decide +kernel
theorem dJ0_isLatin1_aae02_18 : decode cJ0_isLatin1_aae02 18 = .ok (.ireturn, 1) := by decide +kernel
set_option maxRecDepth 20000 in
theorem ggJ0_checkIndex_df160_J3_checkIndex_8e157 : GoodIn wsJ0_checkIndex_df160 wsJ3_checkIndex_8e157 := goodIn_r _ [5] (by decide +kernel) (by decide +kernel)
set_option maxRecDepth 20000 in
theorem gJ0_checkIndex_df160_J3_checkIndex_8e157 : GoodIn wsJ0_checkIndex_df160 (va_wsS RJ0 1059 yJ3_checkIndex_8e157 wsJ3_checkIndex_8e157) := goodIn_app (goodIn_of _ (by decide +kernel)) ggJ0_checkIndex_df160_J3_checkIndex_8e157
theorem dJ0_checkIndex_df160_0 : decode cJ0_checkIndex_df160 0 = .ok (.iload_n 0, 1) := by decide +kernel
theorem dJ0_checkIndex_df160_1 : decode cJ0_checkIndex_df160 1 = .ok (.iload_n 1, 1) := by decide +kernel
theorem dJ0_checkIndex_df160_2 : decode cJ0_checkIndex_df160 2 = .ok (.getstatic 1053, 3) := by decide +kernel
theorem dJ0_checkIndex_df160_5 : decode cJ0_checkIndex_df160 5 = .ok (.invokestatic 1059, 3) := by decide +kernel
theorem dJ0_checkIndex_df160_8 : decode cJ0_checkIndex_df160 8 = .ok (.pop, 1) := by decide +kernel
theorem dJ0_checkIndex_df160_9 : decode cJ0_checkIndex_df160 9 = .ok (.return_, 1) := by decide +kernel
set_option maxRecDepth 20000 in
theorem ggJ1_charAt_3b067_J0_checkIndex_df160 : GoodIn wsJ1_charAt_3b067 wsJ0_checkIndex_df160 := goodIn_r _ [4, 5, 6, 7, 8, 9] (by decide +kernel) (by decide +kernel)
set_option maxRecDepth 20000 in
theorem gJ1_charAt_3b067_J0_checkIndex_df160 : GoodIn wsJ1_charAt_3b067 (va_wsS RJ1 9 yJ0_checkIndex_df160 wsJ0_checkIndex_df160) := goodIn_app (goodIn_of _ (by decide +kernel)) ggJ1_charAt_3b067_J0_checkIndex_df160
theorem dJ1_charAt_3b067_0 : decode cJ1_charAt_3b067 0 = .ok (.iload_n 1, 1) := by decide +kernel
theorem dJ1_charAt_3b067_1 : decode cJ1_charAt_3b067 1 = .ok (.aload_n 0, 1) := by decide +kernel
theorem dJ1_charAt_3b067_2 : decode cJ1_charAt_3b067 2 = .ok (.arraylength, 1) := by decide +kernel
theorem dJ1_charAt_3b067_3 : decode cJ1_charAt_3b067 3 = .ok (.invokestatic 9, 3) := by decide +kernel
theorem dJ1_charAt_3b067_6 : decode cJ1_charAt_3b067 6 = .ok (.aload_n 0, 1) := by decide +kernel
theorem dJ1_charAt_3b067_7 : decode cJ1_charAt_3b067 7 = .ok (.iload_n 1, 1) := by decide +kernel
theorem dJ1_charAt_3b067_8 : decode cJ1_charAt_3b067 8 = .ok (.baload, 1) := by decide +kernel
theorem dJ1_charAt_3b067_9 : decode cJ1_charAt_3b067 9 = .ok (.sipush 255, 3) := by decide +kernel
theorem dJ1_charAt_3b067_12 : decode cJ1_charAt_3b067 12 = .ok (.iand, 1) := by decide +kernel
theorem dJ1_charAt_3b067_13 : decode cJ1_charAt_3b067 13 = .ok (.i2c, 1) := by decide +kernel
theorem dJ1_charAt_3b067_14 : decode cJ1_charAt_3b067 14 = .ok (.ireturn, 1) := by decide +kernel
set_option maxRecDepth 20000 in
theorem ggJ2_getChar_3b067_J2_length_9d52b : GoodIn wsJ2_getChar_3b067 wsJ2_length_9d52b := goodIn_r _ [7] (by decide +kernel) (by decide +kernel)
set_option maxRecDepth 20000 in
theorem gJ2_getChar_3b067_J2_length_9d52b : GoodIn wsJ2_getChar_3b067 (va_wsS RJ2 48 yJ2_length_9d52b wsJ2_length_9d52b) := goodIn_app (goodIn_of _ (by decide +kernel)) ggJ2_getChar_3b067_J2_length_9d52b
theorem dJ2_getChar_3b067_0 : decode cJ2_getChar_3b067 0 = .ok (.getstatic 44, 3) := by decide +kernel
theorem dJ2_getChar_3b067_3 : decode cJ2_getChar_3b067 3 = .ok (.ifCond .ne 25, 3) := by decide +kernel
theorem dJ2_getChar_3b067_6 : decode cJ2_getChar_3b067 6 = .ok (.iload_n 1, 1) := by decide +kernel
theorem dJ2_getChar_3b067_7 : decode cJ2_getChar_3b067 7 = .ok (.ifCond .lt 11, 3) := by decide +kernel
theorem dJ2_getChar_3b067_10 : decode cJ2_getChar_3b067 10 = .ok (.iload_n 1, 1) := by decide +kernel
theorem dJ2_getChar_3b067_11 : decode cJ2_getChar_3b067 11 = .ok (.aload_n 0, 1) := by decide +kernel
theorem dJ2_getChar_3b067_12 : decode cJ2_getChar_3b067 12 = .ok (.invokestatic 48, 3) := by decide +kernel
theorem dJ2_getChar_3b067_15 : decode cJ2_getChar_3b067 15 = .ok (.if_icmp .lt 13, 3) := by decide +kernel
theorem dJ2_getChar_3b067_18 : decode cJ2_getChar_3b067 18 = .ok (.new 52, 3) := by decide +kernel
theorem dJ2_getChar_3b067_21 : decode cJ2_getChar_3b067 21 = .ok (.dup, 1) := by decide +kernel
theorem dJ2_getChar_3b067_22 : decode cJ2_getChar_3b067 22 = .ok (.ldc 54, 2) := by decide +kernel
theorem dJ2_getChar_3b067_24 : decode cJ2_getChar_3b067 24 = .ok (.invokespecial 56, 3) := by decide +kernel
theorem dJ2_getChar_3b067_27 : decode cJ2_getChar_3b067 27 = .ok (.athrow, 1) := by decide +kernel
theorem dJ2_getChar_3b067_28 : decode cJ2_getChar_3b067 28 = .ok (.iload_n 1, 1) := by decide +kernel
theorem dJ2_getChar_3b067_29 : decode cJ2_getChar_3b067 29 = .ok (.iconst 1, 1) := by decide +kernel
theorem dJ2_getChar_3b067_30 : decode cJ2_getChar_3b067 30 = .ok (.ishl, 1) := by decide +kernel
theorem dJ2_getChar_3b067_31 : decode cJ2_getChar_3b067 31 = .ok (.istore_n 1, 1) := by decide +kernel
theorem dJ2_getChar_3b067_32 : decode cJ2_getChar_3b067 32 = .ok (.aload_n 0, 1) := by decide +kernel
theorem dJ2_getChar_3b067_33 : decode cJ2_getChar_3b067 33 = .ok (.iload_n 1, 1) := by decide +kernel
theorem dJ2_getChar_3b067_34 : decode cJ2_getChar_3b067 34 = .ok (.iinc 1 1, 3) := by decide +kernel
theorem dJ2_getChar_3b067_37 : decode cJ2_getChar_3b067 37 = .ok (.baload, 1) := by decide +kernel
theorem dJ2_getChar_3b067_38 : decode cJ2_getChar_3b067 38 = .ok (.sipush 255, 3) := by decide +kernel
theorem dJ2_getChar_3b067_41 : decode cJ2_getChar_3b067 41 = .ok (.iand, 1) := by decide +kernel
theorem dJ2_getChar_3b067_42 : decode cJ2_getChar_3b067 42 = .ok (.getstatic 59, 3) := by decide +kernel
theorem dJ2_getChar_3b067_45 : decode cJ2_getChar_3b067 45 = .ok (.ishl, 1) := by decide +kernel
theorem dJ2_getChar_3b067_46 : decode cJ2_getChar_3b067 46 = .ok (.aload_n 0, 1) := by decide +kernel
theorem dJ2_getChar_3b067_47 : decode cJ2_getChar_3b067 47 = .ok (.iload_n 1, 1) := by decide +kernel
theorem dJ2_getChar_3b067_48 : decode cJ2_getChar_3b067 48 = .ok (.baload, 1) := by decide +kernel
theorem dJ2_getChar_3b067_49 : decode cJ2_getChar_3b067 49 = .ok (.sipush 255, 3) := by decide +kernel
theorem dJ2_getChar_3b067_52 : decode cJ2_getChar_3b067 52 = .ok (.iand, 1) := by decide +kernel
theorem dJ2_getChar_3b067_53 : decode cJ2_getChar_3b067 53 = .ok (.getstatic 63, 3) := by decide +kernel
theorem dJ2_getChar_3b067_56 : decode cJ2_getChar_3b067 56 = .ok (.ishl, 1) := by decide +kernel
theorem dJ2_getChar_3b067_57 : decode cJ2_getChar_3b067 57 = .ok (.ior, 1) := by decide +kernel
theorem dJ2_getChar_3b067_58 : decode cJ2_getChar_3b067 58 = .ok (.i2c, 1) := by decide +kernel
theorem dJ2_getChar_3b067_59 : decode cJ2_getChar_3b067 59 = .ok (.ireturn, 1) := by decide +kernel
theorem dJ2_length_9d52b_0 : decode cJ2_length_9d52b 0 = .ok (.aload_n 0, 1) := by decide +kernel
theorem dJ2_length_9d52b_1 : decode cJ2_length_9d52b 1 = .ok (.arraylength, 1) := by decide +kernel
theorem dJ2_length_9d52b_2 : decode cJ2_length_9d52b 2 = .ok (.iconst 1, 1) := by decide +kernel
theorem dJ2_length_9d52b_3 : decode cJ2_length_9d52b 3 = .ok (.ishr, 1) := by decide +kernel
theorem dJ2_length_9d52b_4 : decode cJ2_length_9d52b 4 = .ok (.ireturn, 1) := by decide +kernel
set_option maxRecDepth 20000 in
theorem ggJ2_charAt_3b067_J2_checkIndex_2214a : GoodIn wsJ2_charAt_3b067 wsJ2_checkIndex_2214a := goodIn_r _ [4, 5, 6, 3, 7, 8, 9, 10, 11, 12, 13, 14, 15, 16] (by decide +kernel) (by decide +kernel)
set_option maxRecDepth 20000 in
theorem gJ2_charAt_3b067_J2_checkIndex_2214a : GoodIn wsJ2_charAt_3b067 (va_wsS RJ2 67 yJ2_checkIndex_2214a wsJ2_checkIndex_2214a) := goodIn_app (goodIn_of _ (by decide +kernel)) ggJ2_charAt_3b067_J2_checkIndex_2214a
set_option maxRecDepth 20000 in
theorem ggJ2_charAt_3b067_J2_getChar_3b067 : GoodIn wsJ2_charAt_3b067 wsJ2_getChar_3b067 := goodIn_r _ [19, 20, 21, 22, 5, 6, 3, 7] (by decide +kernel) (by decide +kernel)
set_option maxRecDepth 20000 in
theorem gJ2_charAt_3b067_J2_getChar_3b067 : GoodIn wsJ2_charAt_3b067 (va_wsS RJ2 71 yJ2_getChar_3b067 wsJ2_getChar_3b067) := goodIn_app (goodIn_of _ (by decide +kernel)) ggJ2_charAt_3b067_J2_getChar_3b067
theorem dJ2_charAt_3b067_0 : decode cJ2_charAt_3b067 0 = .ok (.iload_n 1, 1) := by decide +kernel
theorem dJ2_charAt_3b067_1 : decode cJ2_charAt_3b067 1 = .ok (.aload_n 0, 1) := by decide +kernel
theorem dJ2_charAt_3b067_2 : decode cJ2_charAt_3b067 2 = .ok (.invokestatic 67, 3) := by decide +kernel
theorem dJ2_charAt_3b067_5 : decode cJ2_charAt_3b067 5 = .ok (.aload_n 0, 1) := by decide +kernel
theorem dJ2_charAt_3b067_6 : decode cJ2_charAt_3b067 6 = .ok (.iload_n 1, 1) := by decide +kernel
theorem dJ2_charAt_3b067_7 : decode cJ2_charAt_3b067 7 = .ok (.invokestatic 71, 3) := by decide +kernel
theorem dJ2_charAt_3b067_10 : decode cJ2_charAt_3b067 10 = .ok (.ireturn, 1) := by decide +kernel
set_option maxRecDepth 20000 in
theorem ggJ2_checkIndex_2214a_J2_length_9d52b : GoodIn wsJ2_checkIndex_2214a wsJ2_length_9d52b := goodIn_r _ [4] (by decide +kernel) (by decide +kernel)
set_option maxRecDepth 20000 in
theorem gJ2_checkIndex_2214a_J2_length_9d52b : GoodIn wsJ2_checkIndex_2214a (va_wsS RJ2 48 yJ2_length_9d52b wsJ2_length_9d52b) := goodIn_app (goodIn_of _ (by decide +kernel)) ggJ2_checkIndex_2214a_J2_length_9d52b
set_option maxRecDepth 20000 in
theorem ggJ2_checkIndex_2214a_J0_checkIndex_df160 : GoodIn wsJ2_checkIndex_2214a wsJ0_checkIndex_df160 := goodIn_r _ [8, 9, 10, 11, 12, 13] (by decide +kernel) (by decide +kernel)
set_option maxRecDepth 20000 in
theorem gJ2_checkIndex_2214a_J0_checkIndex_df160 : GoodIn wsJ2_checkIndex_2214a (va_wsS RJ2 414 yJ0_checkIndex_df160 wsJ0_checkIndex_df160) := goodIn_app (goodIn_of _ (by decide +kernel)) ggJ2_checkIndex_2214a_J0_checkIndex_df160
theorem dJ2_checkIndex_2214a_0 : decode cJ2_checkIndex_2214a 0 = .ok (.iload_n 0, 1) := by decide +kernel
theorem dJ2_checkIndex_2214a_1 : decode cJ2_checkIndex_2214a 1 = .ok (.aload_n 1, 1) := by decide +kernel
theorem dJ2_checkIndex_2214a_2 : decode cJ2_checkIndex_2214a 2 = .ok (.invokestatic 48, 3) := by decide +kernel
theorem dJ2_checkIndex_2214a_5 : decode cJ2_checkIndex_2214a 5 = .ok (.invokestatic 414, 3) := by decide +kernel
theorem dJ2_checkIndex_2214a_8 : decode cJ2_checkIndex_2214a 8 = .ok (.return_, 1) := by decide +kernel
theorem dJ7_fill_53178_0 : decode cJ7_fill_53178 0 = .ok (.iconst 0, 1) := by decide +kernel
theorem dJ7_fill_53178_1 : decode cJ7_fill_53178 1 = .ok (.istore_n 2, 1) := by decide +kernel
theorem dJ7_fill_53178_2 : decode cJ7_fill_53178 2 = .ok (.aload_n 0, 1) := by decide +kernel
theorem dJ7_fill_53178_3 : decode cJ7_fill_53178 3 = .ok (.arraylength, 1) := by decide +kernel
theorem dJ7_fill_53178_4 : decode cJ7_fill_53178 4 = .ok (.istore_n 3, 1) := by decide +kernel
theorem dJ7_fill_53178_5 : decode cJ7_fill_53178 5 = .ok (.iload_n 2, 1) := by decide +kernel
theorem dJ7_fill_53178_6 : decode cJ7_fill_53178 6 = .ok (.iload_n 3, 1) := by decide +kernel
theorem dJ7_fill_53178_7 : decode cJ7_fill_53178 7 = .ok (.if_icmp .ge 13, 3) := by decide +kernel
theorem dJ7_fill_53178_10 : decode cJ7_fill_53178 10 = .ok (.aload_n 0, 1) := by decide +kernel
theorem dJ7_fill_53178_11 : decode cJ7_fill_53178 11 = .ok (.iload_n 2, 1) := by decide +kernel
theorem dJ7_fill_53178_12 : decode cJ7_fill_53178 12 = .ok (.iload_n 1, 1) := by decide +kernel
theorem dJ7_fill_53178_13 : decode cJ7_fill_53178 13 = .ok (.iastore, 1) := by decide +kernel
theorem dJ7_fill_53178_14 : decode cJ7_fill_53178 14 = .ok (.iinc 2 1, 3) := by decide +kernel
theorem dJ7_fill_53178_17 : decode cJ7_fill_53178 17 = .ok (.goto (-12), 3) := by decide +kernel
theorem dJ7_fill_53178_20 : decode cJ7_fill_53178 20 = .ok (.return_, 1) := by decide +kernel
theorem dJ3_checkIndex_8e157_0 : decode cJ3_checkIndex_8e157 0 = .ok (.iload_n 0, 1) := by decide +kernel
theorem dJ3_checkIndex_8e157_1 : decode cJ3_checkIndex_8e157 1 = .ok (.ifCond .lt 8, 3) := by decide +kernel
theorem dJ3_checkIndex_8e157_4 : decode cJ3_checkIndex_8e157 4 = .ok (.iload_n 0, 1) := by decide +kernel
theorem dJ3_checkIndex_8e157_5 : decode cJ3_checkIndex_8e157 5 = .ok (.iload_n 1, 1) := by decide +kernel
theorem dJ3_checkIndex_8e157_6 : decode cJ3_checkIndex_8e157 6 = .ok (.if_icmp .lt 10, 3) := by decide +kernel
theorem dJ3_checkIndex_8e157_9 : decode cJ3_checkIndex_8e157 9 = .ok (.aload_n 2, 1) := by decide +kernel
theorem dJ3_checkIndex_8e157_10 : decode cJ3_checkIndex_8e157 10 = .ok (.iload_n 0, 1) := by decide +kernel
theorem dJ3_checkIndex_8e157_11 : decode cJ3_checkIndex_8e157 11 = .ok (.iload_n 1, 1) := by decide +kernel
theorem dJ3_checkIndex_8e157_12 : decode cJ3_checkIndex_8e157 12 = .ok (.invokestatic 95, 3) := by decide +kernel
theorem dJ3_checkIndex_8e157_15 : decode cJ3_checkIndex_8e157 15 = .ok (.athrow, 1) := by decide +kernel
theorem dJ3_checkIndex_8e157_16 : decode cJ3_checkIndex_8e157 16 = .ok (.iload_n 0, 1) := by decide +kernel
theorem dJ3_checkIndex_8e157_17 : decode cJ3_checkIndex_8e157 17 = .ok (.ireturn, 1) := by decide +kernel
