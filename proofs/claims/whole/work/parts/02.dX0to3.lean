theorem dX0_init_0 : decode cX0_init 0 = .ok (.aload_n 0, 1) := by decide +kernel
theorem dX0_init_1 : decode cX0_init 1 = .ok (.invokespecial 3, 3) := by decide +kernel
theorem dX0_init_4 : decode cX0_init 4 = .ok (.aload_n 0, 1) := by decide +kernel
theorem dX0_init_5 : decode cX0_init 5 = .ok (.bipush 40, 2) := by decide +kernel
theorem dX0_init_7 : decode cX0_init 7 = .ok (.newarray .int, 2) := by decide +kernel
theorem dX0_init_9 : decode cX0_init 9 = .ok (.putfield 9, 3) := by decide +kernel
theorem dX0_init_12 : decode cX0_init 12 = .ok (.return_, 1) := by decide +kernel
set_option maxRecDepth 20000 in
theorem ggX0_begin_J7_fill_53178 : GoodIn wsX0_begin wsJ7_fill_53178 := goodIn_r _ [7] (by decide +kernel) (by decide +kernel)
set_option maxRecDepth 20000 in
theorem gX0_begin_J7_fill_53178 : GoodIn wsX0_begin (va_wsS RX0 22 yJ7_fill_53178 wsJ7_fill_53178) := goodIn_app (goodIn_of _ (by decide +kernel)) ggX0_begin_J7_fill_53178
theorem dX0_begin_0 : decode cX0_begin 0 = .ok (.aload_n 0, 1) := by decide +kernel
theorem dX0_begin_1 : decode cX0_begin 1 = .ok (.iload_n 1, 1) := by decide +kernel
theorem dX0_begin_2 : decode cX0_begin 2 = .ok (.putfield 15, 3) := by decide +kernel
theorem dX0_begin_5 : decode cX0_begin 5 = .ok (.aload_n 0, 1) := by decide +kernel
theorem dX0_begin_6 : decode cX0_begin 6 = .ok (.iload_n 1, 1) := by decide +kernel
theorem dX0_begin_7 : decode cX0_begin 7 = .ok (.ifCond .ne 7, 3) := by decide +kernel
theorem dX0_begin_10 : decode cX0_begin 10 = .ok (.iconst 0, 1) := by decide +kernel
theorem dX0_begin_11 : decode cX0_begin 11 = .ok (.goto 4, 3) := by decide +kernel
theorem dX0_begin_14 : decode cX0_begin 14 = .ok (.iload_n 2, 1) := by decide +kernel
theorem dX0_begin_15 : decode cX0_begin 15 = .ok (.putfield 19, 3) := by decide +kernel
theorem dX0_begin_18 : decode cX0_begin 18 = .ok (.aload_n 0, 1) := by decide +kernel
theorem dX0_begin_19 : decode cX0_begin 19 = .ok (.getfield 9, 3) := by decide +kernel
theorem dX0_begin_22 : decode cX0_begin 22 = .ok (.iconst 0, 1) := by decide +kernel
theorem dX0_begin_23 : decode cX0_begin 23 = .ok (.invokestatic 22, 3) := by decide +kernel
theorem dX0_begin_26 : decode cX0_begin 26 = .ok (.return_, 1) := by decide +kernel
theorem dX0_isMissing_0 : decode cX0_isMissing 0 = .ok (.aload_n 0, 1) := by decide +kernel
theorem dX0_isMissing_1 : decode cX0_isMissing 1 = .ok (.getfield 15, 3) := by decide +kernel
theorem dX0_isMissing_4 : decode cX0_isMissing 4 = .ok (.ifCond .ne 7, 3) := by decide +kernel
theorem dX0_isMissing_7 : decode cX0_isMissing 7 = .ok (.iconst 1, 1) := by decide +kernel
theorem dX0_isMissing_8 : decode cX0_isMissing 8 = .ok (.goto 4, 3) := by decide +kernel
theorem dX0_isMissing_11 : decode cX0_isMissing 11 = .ok (.iconst 0, 1) := by decide +kernel
theorem dX0_isMissing_12 : decode cX0_isMissing 12 = .ok (.ireturn, 1) := by decide +kernel
theorem dX0_hasNumbers_0 : decode cX0_hasNumbers 0 = .ok (.iload_n 1, 1) := by decide +kernel
theorem dX0_hasNumbers_1 : decode cX0_hasNumbers 1 = .ok (.ifCond .lt 29, 3) := by decide +kernel
theorem dX0_hasNumbers_4 : decode cX0_hasNumbers 4 = .ok (.iload_n 2, 1) := by decide +kernel
theorem dX0_hasNumbers_5 : decode cX0_hasNumbers 5 = .ok (.ifCond .lt 25, 3) := by decide +kernel
theorem dX0_hasNumbers_8 : decode cX0_hasNumbers 8 = .ok (.iload_n 2, 1) := by decide +kernel
theorem dX0_hasNumbers_9 : decode cX0_hasNumbers 9 = .ok (.aload_n 0, 1) := by decide +kernel
theorem dX0_hasNumbers_10 : decode cX0_hasNumbers 10 = .ok (.getfield 19, 3) := by decide +kernel
theorem dX0_hasNumbers_13 : decode cX0_hasNumbers 13 = .ok (.if_icmp .gt 17, 3) := by decide +kernel
theorem dX0_hasNumbers_16 : decode cX0_hasNumbers 16 = .ok (.iload_n 1, 1) := by decide +kernel
theorem dX0_hasNumbers_17 : decode cX0_hasNumbers 17 = .ok (.aload_n 0, 1) := by decide +kernel
theorem dX0_hasNumbers_18 : decode cX0_hasNumbers 18 = .ok (.getfield 19, 3) := by decide +kernel
theorem dX0_hasNumbers_21 : decode cX0_hasNumbers 21 = .ok (.iload_n 2, 1) := by decide +kernel
theorem dX0_hasNumbers_22 : decode cX0_hasNumbers 22 = .ok (.isub, 1) := by decide +kernel
theorem dX0_hasNumbers_23 : decode cX0_hasNumbers 23 = .ok (.if_icmp .gt 7, 3) := by decide +kernel
theorem dX0_hasNumbers_26 : decode cX0_hasNumbers 26 = .ok (.iconst 1, 1) := by decide +kernel
theorem dX0_hasNumbers_27 : decode cX0_hasNumbers 27 = .ok (.goto 4, 3) := by decide +kernel
theorem dX0_hasNumbers_30 : decode cX0_hasNumbers 30 = .ok (.iconst 0, 1) := by decide +kernel
theorem dX0_hasNumbers_31 : decode cX0_hasNumbers 31 = .ok (.ireturn, 1) := by decide +kernel
theorem dX0_put_0 : decode cX0_put 0 = .ok (.aload_n 0, 1) := by decide +kernel
theorem dX0_put_1 : decode cX0_put 1 = .ok (.getfield 15, 3) := by decide +kernel
theorem dX0_put_4 : decode cX0_put 4 = .ok (.bipush 8, 2) := by decide +kernel
theorem dX0_put_6 : decode cX0_put 6 = .ok (.if_icmp .ne 14, 3) := by decide +kernel
theorem dX0_put_9 : decode cX0_put 9 = .ok (.aload_n 0, 1) := by decide +kernel
theorem dX0_put_10 : decode cX0_put 10 = .ok (.getfield 9, 3) := by decide +kernel
theorem dX0_put_13 : decode cX0_put 13 = .ok (.iload_n 1, 1) := by decide +kernel
theorem dX0_put_14 : decode cX0_put 14 = .ok (.iload_n 2, 1) := by decide +kernel
theorem dX0_put_15 : decode cX0_put 15 = .ok (.i2b, 1) := by decide +kernel
theorem dX0_put_16 : decode cX0_put 16 = .ok (.iastore, 1) := by decide +kernel
theorem dX0_put_17 : decode cX0_put 17 = .ok (.goto 30, 3) := by decide +kernel
theorem dX0_put_20 : decode cX0_put 20 = .ok (.aload_n 0, 1) := by decide +kernel
theorem dX0_put_21 : decode cX0_put 21 = .ok (.getfield 15, 3) := by decide +kernel
theorem dX0_put_24 : decode cX0_put 24 = .ok (.bipush 16, 2) := by decide +kernel
theorem dX0_put_26 : decode cX0_put 26 = .ok (.if_icmp .ne 14, 3) := by decide +kernel
theorem dX0_put_29 : decode cX0_put 29 = .ok (.aload_n 0, 1) := by decide +kernel
theorem dX0_put_30 : decode cX0_put 30 = .ok (.getfield 9, 3) := by decide +kernel
theorem dX0_put_33 : decode cX0_put 33 = .ok (.iload_n 1, 1) := by decide +kernel
theorem dX0_put_34 : decode cX0_put 34 = .ok (.iload_n 2, 1) := by decide +kernel
theorem dX0_put_35 : decode cX0_put 35 = .ok (.i2s, 1) := by decide +kernel
theorem dX0_put_36 : decode cX0_put 36 = .ok (.iastore, 1) := by decide +kernel
theorem dX0_put_37 : decode cX0_put 37 = .ok (.goto 10, 3) := by decide +kernel
theorem dX0_put_40 : decode cX0_put 40 = .ok (.aload_n 0, 1) := by decide +kernel
theorem dX0_put_41 : decode cX0_put 41 = .ok (.getfield 9, 3) := by decide +kernel
theorem dX0_put_44 : decode cX0_put 44 = .ok (.iload_n 1, 1) := by decide +kernel
theorem dX0_put_45 : decode cX0_put 45 = .ok (.iload_n 2, 1) := by decide +kernel
theorem dX0_put_46 : decode cX0_put 46 = .ok (.iastore, 1) := by decide +kernel
theorem dX0_put_47 : decode cX0_put 47 = .ok (.return_, 1) := by decide +kernel
theorem dX1_init_0 : decode cX1_init 0 = .ok (.aload_n 0, 1) := by decide +kernel
theorem dX1_init_1 : decode cX1_init 1 = .ok (.invokespecial 3, 3) := by decide +kernel
theorem dX1_init_4 : decode cX1_init 4 = .ok (.aload_n 0, 1) := by decide +kernel
theorem dX1_init_5 : decode cX1_init 5 = .ok (.bipush 120, 2) := by decide +kernel
theorem dX1_init_7 : decode cX1_init 7 = .ok (.newarray .int, 2) := by decide +kernel
theorem dX1_init_9 : decode cX1_init 9 = .ok (.putfield 9, 3) := by decide +kernel
theorem dX1_init_12 : decode cX1_init 12 = .ok (.return_, 1) := by decide +kernel
theorem dX1_append_0 : decode cX1_append 0 = .ok (.aload_n 0, 1) := by decide +kernel
theorem dX1_append_1 : decode cX1_append 1 = .ok (.getfield 15, 3) := by decide +kernel
theorem dX1_append_4 : decode cX1_append 4 = .ok (.bipush 120, 2) := by decide +kernel
theorem dX1_append_6 : decode cX1_append 6 = .ok (.if_icmp .ge 23, 3) := by decide +kernel
theorem dX1_append_9 : decode cX1_append 9 = .ok (.aload_n 0, 1) := by decide +kernel
theorem dX1_append_10 : decode cX1_append 10 = .ok (.getfield 9, 3) := by decide +kernel
theorem dX1_append_13 : decode cX1_append 13 = .ok (.aload_n 0, 1) := by decide +kernel
theorem dX1_append_14 : decode cX1_append 14 = .ok (.getfield 15, 3) := by decide +kernel
theorem dX1_append_17 : decode cX1_append 17 = .ok (.iload_n 1, 1) := by decide +kernel
theorem dX1_append_18 : decode cX1_append 18 = .ok (.iastore, 1) := by decide +kernel
theorem dX1_append_19 : decode cX1_append 19 = .ok (.aload_n 0, 1) := by decide +kernel
theorem dX1_append_20 : decode cX1_append 20 = .ok (.dup, 1) := by decide +kernel
theorem dX1_append_21 : decode cX1_append 21 = .ok (.getfield 15, 3) := by decide +kernel
theorem dX1_append_24 : decode cX1_append 24 = .ok (.iconst 1, 1) := by decide +kernel
theorem dX1_append_25 : decode cX1_append 25 = .ok (.iadd, 1) := by decide +kernel
theorem dX1_append_26 : decode cX1_append 26 = .ok (.putfield 15, 3) := by decide +kernel
theorem dX1_append_29 : decode cX1_append 29 = .ok (.return_, 1) := by decide +kernel
set_option maxRecDepth 20000 in
theorem ggX1_rewind_X1_step : GoodIn wsX1_rewind wsX1_step := goodIn_r _ [6, 1, 7, 8, 9, 10, 11, 12, 13, 5, 14, 15, 16, 17, 18, 19, 20, 21, 22, 23, 24, 25] (by decide +kernel) (by decide +kernel)
set_option maxRecDepth 20000 in
theorem gX1_rewind_X1_step : GoodIn wsX1_rewind (wsV RX1 22 RX1 yX1_step wsX1_step) := goodIn_app (goodIn_of _ (by decide +kernel)) ggX1_rewind_X1_step
theorem dX1_rewind_0 : decode cX1_rewind 0 = .ok (.aload_n 0, 1) := by decide +kernel
theorem dX1_rewind_1 : decode cX1_rewind 1 = .ok (.iconst 0, 1) := by decide +kernel
theorem dX1_rewind_2 : decode cX1_rewind 2 = .ok (.putfield 19, 3) := by decide +kernel
theorem dX1_rewind_5 : decode cX1_rewind 5 = .ok (.aload_n 0, 1) := by decide +kernel
theorem dX1_rewind_6 : decode cX1_rewind 6 = .ok (.invokevirtual 22, 3) := by decide +kernel
theorem dX1_rewind_9 : decode cX1_rewind 9 = .ok (.return_, 1) := by decide +kernel
set_option maxRecDepth 20000 in
theorem ggX1_step_X1_skipWord : GoodIn wsX1_step wsX1_skipWord := goodIn_r _ [10, 1, 3, 4, 16, 17, 18, 19, 20, 21] (by decide +kernel) (by decide +kernel)
set_option maxRecDepth 20000 in
theorem gX1_step_X1_skipWord : GoodIn wsX1_step (wsV RX1 31 RX1 yX1_skipWord wsX1_skipWord) := goodIn_app (goodIn_of _ (by decide +kernel)) ggX1_step_X1_skipWord
set_option maxRecDepth 20000 in
theorem ggX1_step_X1_skipNumber : GoodIn wsX1_step wsX1_skipNumber := goodIn_r _ [14, 15, 1, 3, 4, 16, 17, 18, 19, 20, 21] (by decide +kernel) (by decide +kernel)
set_option maxRecDepth 20000 in
theorem gX1_step_X1_skipNumber : GoodIn wsX1_step (wsV RX1 34 RX1 yX1_skipNumber wsX1_skipNumber) := goodIn_app (goodIn_of _ (by decide +kernel)) ggX1_step_X1_skipNumber
theorem dX1_step_0 : decode cX1_step 0 = .ok (.aload_n 0, 1) := by decide +kernel
theorem dX1_step_1 : decode cX1_step 1 = .ok (.aload_n 0, 1) := by decide +kernel
theorem dX1_step_2 : decode cX1_step 2 = .ok (.getfield 19, 3) := by decide +kernel
theorem dX1_step_5 : decode cX1_step 5 = .ok (.putfield 25, 3) := by decide +kernel
theorem dX1_step_8 : decode cX1_step 8 = .ok (.aload_n 0, 1) := by decide +kernel
theorem dX1_step_9 : decode cX1_step 9 = .ok (.getfield 25, 3) := by decide +kernel
theorem dX1_step_12 : decode cX1_step 12 = .ok (.aload_n 0, 1) := by decide +kernel
theorem dX1_step_13 : decode cX1_step 13 = .ok (.getfield 15, 3) := by decide +kernel
theorem dX1_step_16 : decode cX1_step 16 = .ok (.if_icmp .ge 30, 3) := by decide +kernel
theorem dX1_step_19 : decode cX1_step 19 = .ok (.aload_n 0, 1) := by decide +kernel
theorem dX1_step_20 : decode cX1_step 20 = .ok (.getfield 9, 3) := by decide +kernel
theorem dX1_step_23 : decode cX1_step 23 = .ok (.aload_n 0, 1) := by decide +kernel
theorem dX1_step_24 : decode cX1_step 24 = .ok (.getfield 25, 3) := by decide +kernel
theorem dX1_step_27 : decode cX1_step 27 = .ok (.iaload, 1) := by decide +kernel
theorem dX1_step_28 : decode cX1_step 28 = .ok (.bipush 32, 2) := by decide +kernel
theorem dX1_step_30 : decode cX1_step 30 = .ok (.if_icmp .ne 16, 3) := by decide +kernel
theorem dX1_step_33 : decode cX1_step 33 = .ok (.aload_n 0, 1) := by decide +kernel
theorem dX1_step_34 : decode cX1_step 34 = .ok (.dup, 1) := by decide +kernel
theorem dX1_step_35 : decode cX1_step 35 = .ok (.getfield 25, 3) := by decide +kernel
theorem dX1_step_38 : decode cX1_step 38 = .ok (.iconst 1, 1) := by decide +kernel
theorem dX1_step_39 : decode cX1_step 39 = .ok (.iadd, 1) := by decide +kernel
theorem dX1_step_40 : decode cX1_step 40 = .ok (.putfield 25, 3) := by decide +kernel
theorem dX1_step_43 : decode cX1_step 43 = .ok (.goto (-35), 3) := by decide +kernel
theorem dX1_step_46 : decode cX1_step 46 = .ok (.aload_n 0, 1) := by decide +kernel
theorem dX1_step_47 : decode cX1_step 47 = .ok (.aload_n 0, 1) := by decide +kernel
theorem dX1_step_48 : decode cX1_step 48 = .ok (.getfield 25, 3) := by decide +kernel
theorem dX1_step_51 : decode cX1_step 51 = .ok (.putfield 19, 3) := by decide +kernel
theorem dX1_step_54 : decode cX1_step 54 = .ok (.aload_n 0, 1) := by decide +kernel
theorem dX1_step_55 : decode cX1_step 55 = .ok (.getfield 25, 3) := by decide +kernel
theorem dX1_step_58 : decode cX1_step 58 = .ok (.aload_n 0, 1) := by decide +kernel
theorem dX1_step_59 : decode cX1_step 59 = .ok (.getfield 15, 3) := by decide +kernel
theorem dX1_step_62 : decode cX1_step 62 = .ok (.if_icmp .lt 9, 3) := by decide +kernel
theorem dX1_step_65 : decode cX1_step 65 = .ok (.aload_n 0, 1) := by decide +kernel
theorem dX1_step_66 : decode cX1_step 66 = .ok (.iconst 0, 1) := by decide +kernel
theorem dX1_step_67 : decode cX1_step 67 = .ok (.putfield 28, 3) := by decide +kernel
theorem dX1_step_70 : decode cX1_step 70 = .ok (.return_, 1) := by decide +kernel
theorem dX1_step_71 : decode cX1_step 71 = .ok (.aload_n 0, 1) := by decide +kernel
theorem dX1_step_72 : decode cX1_step 72 = .ok (.getfield 9, 3) := by decide +kernel
theorem dX1_step_75 : decode cX1_step 75 = .ok (.aload_n 0, 1) := by decide +kernel
theorem dX1_step_76 : decode cX1_step 76 = .ok (.getfield 25, 3) := by decide +kernel
theorem dX1_step_79 : decode cX1_step 79 = .ok (.iaload, 1) := by decide +kernel
theorem dX1_step_80 : decode cX1_step 80 = .ok (.istore_n 1, 1) := by decide +kernel
theorem dX1_step_81 : decode cX1_step 81 = .ok (.iload_n 1, 1) := by decide +kernel
theorem dX1_step_82 : decode cX1_step 82 = .ok (.bipush 97, 2) := by decide +kernel
theorem dX1_step_84 : decode cX1_step 84 = .ok (.if_icmp .lt 21, 3) := by decide +kernel
theorem dX1_step_87 : decode cX1_step 87 = .ok (.iload_n 1, 1) := by decide +kernel
theorem dX1_step_88 : decode cX1_step 88 = .ok (.bipush 122, 2) := by decide +kernel
theorem dX1_step_90 : decode cX1_step 90 = .ok (.if_icmp .gt 15, 3) := by decide +kernel
theorem dX1_step_93 : decode cX1_step 93 = .ok (.aload_n 0, 1) := by decide +kernel
theorem dX1_step_94 : decode cX1_step 94 = .ok (.iconst 1, 1) := by decide +kernel
theorem dX1_step_95 : decode cX1_step 95 = .ok (.putfield 28, 3) := by decide +kernel
theorem dX1_step_98 : decode cX1_step 98 = .ok (.aload_n 0, 1) := by decide +kernel
theorem dX1_step_99 : decode cX1_step 99 = .ok (.invokevirtual 31, 3) := by decide +kernel
theorem dX1_step_102 : decode cX1_step 102 = .ok (.goto 52, 3) := by decide +kernel
theorem dX1_step_105 : decode cX1_step 105 = .ok (.iload_n 1, 1) := by decide +kernel
theorem dX1_step_106 : decode cX1_step 106 = .ok (.bipush 48, 2) := by decide +kernel
theorem dX1_step_108 : decode cX1_step 108 = .ok (.if_icmp .lt 21, 3) := by decide +kernel
theorem dX1_step_111 : decode cX1_step 111 = .ok (.iload_n 1, 1) := by decide +kernel
theorem dX1_step_112 : decode cX1_step 112 = .ok (.bipush 57, 2) := by decide +kernel
theorem dX1_step_114 : decode cX1_step 114 = .ok (.if_icmp .gt 15, 3) := by decide +kernel
theorem dX1_step_117 : decode cX1_step 117 = .ok (.aload_n 0, 1) := by decide +kernel
theorem dX1_step_118 : decode cX1_step 118 = .ok (.iconst 2, 1) := by decide +kernel
theorem dX1_step_119 : decode cX1_step 119 = .ok (.putfield 28, 3) := by decide +kernel
theorem dX1_step_122 : decode cX1_step 122 = .ok (.aload_n 0, 1) := by decide +kernel
theorem dX1_step_123 : decode cX1_step 123 = .ok (.invokevirtual 34, 3) := by decide +kernel
theorem dX1_step_126 : decode cX1_step 126 = .ok (.goto 28, 3) := by decide +kernel
theorem dX1_step_129 : decode cX1_step 129 = .ok (.aload_n 0, 1) := by decide +kernel
theorem dX1_step_130 : decode cX1_step 130 = .ok (.iload_n 1, 1) := by decide +kernel
theorem dX1_step_131 : decode cX1_step 131 = .ok (.bipush 59, 2) := by decide +kernel
theorem dX1_step_133 : decode cX1_step 133 = .ok (.if_icmp .ne 7, 3) := by decide +kernel
theorem dX1_step_136 : decode cX1_step 136 = .ok (.iconst 3, 1) := by decide +kernel
theorem dX1_step_137 : decode cX1_step 137 = .ok (.goto 4, 3) := by decide +kernel
theorem dX1_step_140 : decode cX1_step 140 = .ok (.iconst 4, 1) := by decide +kernel
theorem dX1_step_141 : decode cX1_step 141 = .ok (.putfield 28, 3) := by decide +kernel
theorem dX1_step_144 : decode cX1_step 144 = .ok (.aload_n 0, 1) := by decide +kernel
theorem dX1_step_145 : decode cX1_step 145 = .ok (.aload_n 0, 1) := by decide +kernel
theorem dX1_step_146 : decode cX1_step 146 = .ok (.getfield 25, 3) := by decide +kernel
theorem dX1_step_149 : decode cX1_step 149 = .ok (.iconst 1, 1) := by decide +kernel
theorem dX1_step_150 : decode cX1_step 150 = .ok (.iadd, 1) := by decide +kernel
theorem dX1_step_151 : decode cX1_step 151 = .ok (.putfield 19, 3) := by decide +kernel
theorem dX1_step_154 : decode cX1_step 154 = .ok (.return_, 1) := by decide +kernel
theorem dX1_skipWord_0 : decode cX1_skipWord 0 = .ok (.aload_n 0, 1) := by decide +kernel
theorem dX1_skipWord_1 : decode cX1_skipWord 1 = .ok (.getfield 19, 3) := by decide +kernel
theorem dX1_skipWord_4 : decode cX1_skipWord 4 = .ok (.aload_n 0, 1) := by decide +kernel
theorem dX1_skipWord_5 : decode cX1_skipWord 5 = .ok (.getfield 15, 3) := by decide +kernel
theorem dX1_skipWord_8 : decode cX1_skipWord 8 = .ok (.if_icmp .ge 44, 3) := by decide +kernel
theorem dX1_skipWord_11 : decode cX1_skipWord 11 = .ok (.aload_n 0, 1) := by decide +kernel
theorem dX1_skipWord_12 : decode cX1_skipWord 12 = .ok (.getfield 9, 3) := by decide +kernel
theorem dX1_skipWord_15 : decode cX1_skipWord 15 = .ok (.aload_n 0, 1) := by decide +kernel
theorem dX1_skipWord_16 : decode cX1_skipWord 16 = .ok (.getfield 19, 3) := by decide +kernel
theorem dX1_skipWord_19 : decode cX1_skipWord 19 = .ok (.iaload, 1) := by decide +kernel
theorem dX1_skipWord_20 : decode cX1_skipWord 20 = .ok (.bipush 97, 2) := by decide +kernel
theorem dX1_skipWord_22 : decode cX1_skipWord 22 = .ok (.if_icmp .lt 30, 3) := by decide +kernel
theorem dX1_skipWord_25 : decode cX1_skipWord 25 = .ok (.aload_n 0, 1) := by decide +kernel
theorem dX1_skipWord_26 : decode cX1_skipWord 26 = .ok (.getfield 9, 3) := by decide +kernel
theorem dX1_skipWord_29 : decode cX1_skipWord 29 = .ok (.aload_n 0, 1) := by decide +kernel
theorem dX1_skipWord_30 : decode cX1_skipWord 30 = .ok (.getfield 19, 3) := by decide +kernel
theorem dX1_skipWord_33 : decode cX1_skipWord 33 = .ok (.iaload, 1) := by decide +kernel
theorem dX1_skipWord_34 : decode cX1_skipWord 34 = .ok (.bipush 122, 2) := by decide +kernel
theorem dX1_skipWord_36 : decode cX1_skipWord 36 = .ok (.if_icmp .gt 16, 3) := by decide +kernel
theorem dX1_skipWord_39 : decode cX1_skipWord 39 = .ok (.aload_n 0, 1) := by decide +kernel
theorem dX1_skipWord_40 : decode cX1_skipWord 40 = .ok (.dup, 1) := by decide +kernel
theorem dX1_skipWord_41 : decode cX1_skipWord 41 = .ok (.getfield 19, 3) := by decide +kernel
theorem dX1_skipWord_44 : decode cX1_skipWord 44 = .ok (.iconst 1, 1) := by decide +kernel
theorem dX1_skipWord_45 : decode cX1_skipWord 45 = .ok (.iadd, 1) := by decide +kernel
theorem dX1_skipWord_46 : decode cX1_skipWord 46 = .ok (.putfield 19, 3) := by decide +kernel
theorem dX1_skipWord_49 : decode cX1_skipWord 49 = .ok (.goto (-49), 3) := by decide +kernel
theorem dX1_skipWord_52 : decode cX1_skipWord 52 = .ok (.return_, 1) := by decide +kernel
theorem dX1_skipNumber_0 : decode cX1_skipNumber 0 = .ok (.aload_n 0, 1) := by decide +kernel
theorem dX1_skipNumber_1 : decode cX1_skipNumber 1 = .ok (.iconst 0, 1) := by decide +kernel
theorem dX1_skipNumber_2 : decode cX1_skipNumber 2 = .ok (.putfield 37, 3) := by decide +kernel
theorem dX1_skipNumber_5 : decode cX1_skipNumber 5 = .ok (.aload_n 0, 1) := by decide +kernel
theorem dX1_skipNumber_6 : decode cX1_skipNumber 6 = .ok (.getfield 19, 3) := by decide +kernel
theorem dX1_skipNumber_9 : decode cX1_skipNumber 9 = .ok (.aload_n 0, 1) := by decide +kernel
theorem dX1_skipNumber_10 : decode cX1_skipNumber 10 = .ok (.getfield 15, 3) := by decide +kernel
theorem dX1_skipNumber_13 : decode cX1_skipNumber 13 = .ok (.if_icmp .ge 78, 3) := by decide +kernel
theorem dX1_skipNumber_16 : decode cX1_skipNumber 16 = .ok (.aload_n 0, 1) := by decide +kernel
theorem dX1_skipNumber_17 : decode cX1_skipNumber 17 = .ok (.getfield 9, 3) := by decide +kernel
theorem dX1_skipNumber_20 : decode cX1_skipNumber 20 = .ok (.aload_n 0, 1) := by decide +kernel
theorem dX1_skipNumber_21 : decode cX1_skipNumber 21 = .ok (.getfield 19, 3) := by decide +kernel
theorem dX1_skipNumber_24 : decode cX1_skipNumber 24 = .ok (.iaload, 1) := by decide +kernel
theorem dX1_skipNumber_25 : decode cX1_skipNumber 25 = .ok (.bipush 48, 2) := by decide +kernel
theorem dX1_skipNumber_27 : decode cX1_skipNumber 27 = .ok (.if_icmp .lt 64, 3) := by decide +kernel
theorem dX1_skipNumber_30 : decode cX1_skipNumber 30 = .ok (.aload_n 0, 1) := by decide +kernel
theorem dX1_skipNumber_31 : decode cX1_skipNumber 31 = .ok (.getfield 9, 3) := by decide +kernel
theorem dX1_skipNumber_34 : decode cX1_skipNumber 34 = .ok (.aload_n 0, 1) := by decide +kernel
theorem dX1_skipNumber_35 : decode cX1_skipNumber 35 = .ok (.getfield 19, 3) := by decide +kernel
theorem dX1_skipNumber_38 : decode cX1_skipNumber 38 = .ok (.iaload, 1) := by decide +kernel
theorem dX1_skipNumber_39 : decode cX1_skipNumber 39 = .ok (.bipush 57, 2) := by decide +kernel
theorem dX1_skipNumber_41 : decode cX1_skipNumber 41 = .ok (.if_icmp .gt 50, 3) := by decide +kernel
theorem dX1_skipNumber_44 : decode cX1_skipNumber 44 = .ok (.aload_n 0, 1) := by decide +kernel
theorem dX1_skipNumber_45 : decode cX1_skipNumber 45 = .ok (.getfield 37, 3) := by decide +kernel
theorem dX1_skipNumber_48 : decode cX1_skipNumber 48 = .ok (.sipush 9999, 3) := by decide +kernel
theorem dX1_skipNumber_51 : decode cX1_skipNumber 51 = .ok (.if_icmp .gt 27, 3) := by decide +kernel
theorem dX1_skipNumber_54 : decode cX1_skipNumber 54 = .ok (.aload_n 0, 1) := by decide +kernel
theorem dX1_skipNumber_55 : decode cX1_skipNumber 55 = .ok (.aload_n 0, 1) := by decide +kernel
theorem dX1_skipNumber_56 : decode cX1_skipNumber 56 = .ok (.getfield 37, 3) := by decide +kernel
theorem dX1_skipNumber_59 : decode cX1_skipNumber 59 = .ok (.bipush 10, 2) := by decide +kernel
theorem dX1_skipNumber_61 : decode cX1_skipNumber 61 = .ok (.imul, 1) := by decide +kernel
theorem dX1_skipNumber_62 : decode cX1_skipNumber 62 = .ok (.aload_n 0, 1) := by decide +kernel
theorem dX1_skipNumber_63 : decode cX1_skipNumber 63 = .ok (.getfield 9, 3) := by decide +kernel
theorem dX1_skipNumber_66 : decode cX1_skipNumber 66 = .ok (.aload_n 0, 1) := by decide +kernel
theorem dX1_skipNumber_67 : decode cX1_skipNumber 67 = .ok (.getfield 19, 3) := by decide +kernel
theorem dX1_skipNumber_70 : decode cX1_skipNumber 70 = .ok (.iaload, 1) := by decide +kernel
theorem dX1_skipNumber_71 : decode cX1_skipNumber 71 = .ok (.iadd, 1) := by decide +kernel
theorem dX1_skipNumber_72 : decode cX1_skipNumber 72 = .ok (.bipush 48, 2) := by decide +kernel
theorem dX1_skipNumber_74 : decode cX1_skipNumber 74 = .ok (.isub, 1) := by decide +kernel
theorem dX1_skipNumber_75 : decode cX1_skipNumber 75 = .ok (.putfield 37, 3) := by decide +kernel
theorem dX1_skipNumber_78 : decode cX1_skipNumber 78 = .ok (.aload_n 0, 1) := by decide +kernel
theorem dX1_skipNumber_79 : decode cX1_skipNumber 79 = .ok (.dup, 1) := by decide +kernel
theorem dX1_skipNumber_80 : decode cX1_skipNumber 80 = .ok (.getfield 19, 3) := by decide +kernel
theorem dX1_skipNumber_83 : decode cX1_skipNumber 83 = .ok (.iconst 1, 1) := by decide +kernel
theorem dX1_skipNumber_84 : decode cX1_skipNumber 84 = .ok (.iadd, 1) := by decide +kernel
theorem dX1_skipNumber_85 : decode cX1_skipNumber 85 = .ok (.putfield 19, 3) := by decide +kernel
theorem dX1_skipNumber_88 : decode cX1_skipNumber 88 = .ok (.goto (-83), 3) := by decide +kernel
theorem dX1_skipNumber_91 : decode cX1_skipNumber 91 = .ok (.return_, 1) := by decide +kernel
set_option maxRecDepth 20000 in
theorem ggX1_isWord_J0_length_8abf5 : GoodIn wsX1_isWord wsJ0_length_8abf5 := goodIn_r _ [9, 10, 11, 12, 13, 8, 14, 15, 16] (by decide +kernel) (by decide +kernel)
set_option maxRecDepth 20000 in
theorem gX1_isWord_J0_length_8abf5 : GoodIn wsX1_isWord (wsV RX1 40 RJ0 yJ0_length_8abf5 wsJ0_length_8abf5) := goodIn_app (goodIn_of _ (by decide +kernel)) ggX1_isWord_J0_length_8abf5
set_option maxRecDepth 20000 in
theorem ggX1_isWord_J0_charAt_5068e : GoodIn wsX1_isWord wsJ0_charAt_5068e := goodIn_r _ [20, 10, 21, 22, 23, 8, 24, 15, 16, 25, 26, 27, 28, 29, 30, 31, 32, 33, 34, 35, 36, 37, 38, 39, 40, 41, 42, 43, 44, 45, 46, 47, 48, 49, 50, 51, 52, 53] (by decide +kernel) (by decide +kernel)
set_option maxRecDepth 20000 in
theorem gX1_isWord_J0_charAt_5068e : GoodIn wsX1_isWord (wsV RX1 45 RJ0 yJ0_charAt_5068e wsJ0_charAt_5068e) := goodIn_app (goodIn_of _ (by decide +kernel)) ggX1_isWord_J0_charAt_5068e
theorem dX1_isWord_0 : decode cX1_isWord 0 = .ok (.aload_n 0, 1) := by decide +kernel
theorem dX1_isWord_1 : decode cX1_isWord 1 = .ok (.getfield 28, 3) := by decide +kernel
theorem dX1_isWord_4 : decode cX1_isWord 4 = .ok (.iconst 1, 1) := by decide +kernel
theorem dX1_isWord_5 : decode cX1_isWord 5 = .ok (.if_icmp .ne 19, 3) := by decide +kernel
theorem dX1_isWord_8 : decode cX1_isWord 8 = .ok (.aload_n 0, 1) := by decide +kernel
theorem dX1_isWord_9 : decode cX1_isWord 9 = .ok (.getfield 19, 3) := by decide +kernel
theorem dX1_isWord_12 : decode cX1_isWord 12 = .ok (.aload_n 0, 1) := by decide +kernel
theorem dX1_isWord_13 : decode cX1_isWord 13 = .ok (.getfield 25, 3) := by decide +kernel
theorem dX1_isWord_16 : decode cX1_isWord 16 = .ok (.isub, 1) := by decide +kernel
theorem dX1_isWord_17 : decode cX1_isWord 17 = .ok (.aload_n 1, 1) := by decide +kernel
theorem dX1_isWord_18 : decode cX1_isWord 18 = .ok (.invokevirtual 40, 3) := by decide +kernel
theorem dX1_isWord_21 : decode cX1_isWord 21 = .ok (.if_icmp .eq 5, 3) := by decide +kernel
theorem dX1_isWord_24 : decode cX1_isWord 24 = .ok (.iconst 0, 1) := by decide +kernel
theorem dX1_isWord_25 : decode cX1_isWord 25 = .ok (.ireturn, 1) := by decide +kernel
theorem dX1_isWord_26 : decode cX1_isWord 26 = .ok (.iconst 0, 1) := by decide +kernel
theorem dX1_isWord_27 : decode cX1_isWord 27 = .ok (.istore_n 2, 1) := by decide +kernel
theorem dX1_isWord_28 : decode cX1_isWord 28 = .ok (.iload_n 2, 1) := by decide +kernel
theorem dX1_isWord_29 : decode cX1_isWord 29 = .ok (.aload_n 1, 1) := by decide +kernel
theorem dX1_isWord_30 : decode cX1_isWord 30 = .ok (.invokevirtual 40, 3) := by decide +kernel
theorem dX1_isWord_33 : decode cX1_isWord 33 = .ok (.if_icmp .ge 30, 3) := by decide +kernel
theorem dX1_isWord_36 : decode cX1_isWord 36 = .ok (.aload_n 0, 1) := by decide +kernel
theorem dX1_isWord_37 : decode cX1_isWord 37 = .ok (.getfield 9, 3) := by decide +kernel
theorem dX1_isWord_40 : decode cX1_isWord 40 = .ok (.aload_n 0, 1) := by decide +kernel
theorem dX1_isWord_41 : decode cX1_isWord 41 = .ok (.getfield 25, 3) := by decide +kernel
theorem dX1_isWord_44 : decode cX1_isWord 44 = .ok (.iload_n 2, 1) := by decide +kernel
theorem dX1_isWord_45 : decode cX1_isWord 45 = .ok (.iadd, 1) := by decide +kernel
theorem dX1_isWord_46 : decode cX1_isWord 46 = .ok (.iaload, 1) := by decide +kernel
theorem dX1_isWord_47 : decode cX1_isWord 47 = .ok (.aload_n 1, 1) := by decide +kernel
theorem dX1_isWord_48 : decode cX1_isWord 48 = .ok (.iload_n 2, 1) := by decide +kernel
theorem dX1_isWord_49 : decode cX1_isWord 49 = .ok (.invokevirtual 45, 3) := by decide +kernel
theorem dX1_isWord_52 : decode cX1_isWord 52 = .ok (.if_icmp .eq 5, 3) := by decide +kernel
theorem dX1_isWord_55 : decode cX1_isWord 55 = .ok (.iconst 0, 1) := by decide +kernel
theorem dX1_isWord_56 : decode cX1_isWord 56 = .ok (.ireturn, 1) := by decide +kernel
theorem dX1_isWord_57 : decode cX1_isWord 57 = .ok (.iinc 2 1, 3) := by decide +kernel
theorem dX1_isWord_60 : decode cX1_isWord 60 = .ok (.goto (-32), 3) := by decide +kernel
theorem dX1_isWord_63 : decode cX1_isWord 63 = .ok (.iconst 1, 1) := by decide +kernel
theorem dX1_isWord_64 : decode cX1_isWord 64 = .ok (.ireturn, 1) := by decide +kernel
set_option maxRecDepth 20000 in
theorem ggX2_init_X1_init : GoodIn wsX2_init wsX1_init := goodIn_r _ [13, 14, 2, 3, 15, 16, 38, 39, 40, 41, 42, 43] (by decide +kernel) (by decide +kernel)
set_option maxRecDepth 20000 in
theorem gX2_init_X1_init_n11 : GoodIn wsX2_init (wsX1_init) := ggX2_init_X1_init
set_option maxRecDepth 20000 in
theorem ggX2_init_X3_init : GoodIn wsX2_init wsX3_init := goodIn_r _ [19, 20, 2, 3, 15, 21, 22, 23, 24, 25, 26, 27, 28, 29, 30, 31, 32, 33, 34, 35, 36, 37, 48, 49, 50, 51, 52, 53, 54, 55, 56, 57, 58, 59, 60] (by decide +kernel) (by decide +kernel)
set_option maxRecDepth 20000 in
theorem gX2_init_X3_init : GoodIn wsX2_init (wsX3_init) := ggX2_init_X3_init
theorem dX2_init_0 : decode cX2_init 0 = .ok (.aload_n 0, 1) := by decide +kernel
theorem dX2_init_1 : decode cX2_init 1 = .ok (.invokespecial 3, 3) := by decide +kernel
theorem dX2_init_4 : decode cX2_init 4 = .ok (.aload_n 0, 1) := by decide +kernel
theorem dX2_init_5 : decode cX2_init 5 = .ok (.new 9, 3) := by decide +kernel
theorem dX2_init_8 : decode cX2_init 8 = .ok (.dup, 1) := by decide +kernel
theorem dX2_init_9 : decode cX2_init 9 = .ok (.invokespecial 11, 3) := by decide +kernel
theorem dX2_init_12 : decode cX2_init 12 = .ok (.putfield 12, 3) := by decide +kernel
theorem dX2_init_15 : decode cX2_init 15 = .ok (.aload_n 0, 1) := by decide +kernel
theorem dX2_init_16 : decode cX2_init 16 = .ok (.new 18, 3) := by decide +kernel
theorem dX2_init_19 : decode cX2_init 19 = .ok (.dup, 1) := by decide +kernel
theorem dX2_init_20 : decode cX2_init 20 = .ok (.invokespecial 20, 3) := by decide +kernel
theorem dX2_init_23 : decode cX2_init 23 = .ok (.putfield 21, 3) := by decide +kernel
theorem dX2_init_26 : decode cX2_init 26 = .ok (.return_, 1) := by decide +kernel
set_option maxRecDepth 20000 in
theorem ggX2_readItems_X1_rewind : GoodIn wsX2_readItems wsX1_rewind := goodIn_r _ [8, 9, 10, 11, 12, 7, 13, 14, 15, 16, 17, 18, 19, 20, 21, 22, 23, 24, 25, 26, 143, 144, 145, 146, 147, 148] (by decide +kernel) (by decide +kernel)
set_option maxRecDepth 20000 in
theorem gX2_readItems_X1_rewind : GoodIn wsX2_readItems (wsV RX2 29 RX1 yX1_rewind wsX1_rewind) := goodIn_app (goodIn_of _ (by decide +kernel)) ggX2_readItems_X1_rewind
set_option maxRecDepth 20000 in
theorem ggX2_readItems_X2_readItem : GoodIn wsX2_readItems wsX2_readItem := goodIn_r _ [31, 2, 32, 33, 34, 35, 7, 36, 17, 9, 14, 16, 37, 38, 39, 40, 41, 42, 43, 44, 45, 46, 47, 48, 49, 50, 51, 52, 53, 54, 55, 56, 57, 58, 59, 60, 61, 62, 63, 64, 65, 66, 67, 68, 69, 70, 71, 72, 73, 74, 75, 76, 77, 78, 79, 80, 81, 82, 83, 84, 85, 86, 11, 12, 13, 15, 18, 19, 20, 21, 22, 23, 24, 25, 26, 87, 88, 89, 30, 90, 91, 92, 93, 94, 95, 96, 3, 97, 98, 99, 100, 101, 102, 103, 104, 105, 106, 107, 108, 109, 110, 111, 112, 113, 114, 115, 116, 117, 118, 119, 120, 121, 122, 123, 124, 125, 126, 127, 128, 129, 130, 131, 132, 139, 140, 141, 142, 143, 144, 145, 146, 147, 148, 149, 150, 151, 152, 153, 154, 155, 156, 157, 158, 159, 160, 161] (by decide +kernel) (by decide +kernel)
set_option maxRecDepth 20000 in
theorem gX2_readItems_X2_readItem : GoodIn wsX2_readItems (wsV RX2 32 RX2 yX2_readItem wsX2_readItem) := goodIn_app (goodIn_of _ (by decide +kernel)) ggX2_readItems_X2_readItem
set_option maxRecDepth 20000 in
theorem ggX2_readItems_X2_failHere : GoodIn wsX2_readItems wsX2_failHere := goodIn_r _ [136, 2, 137, 138, 139, 140, 141, 142, 143, 144, 145, 146, 147, 148] (by decide +kernel) (by decide +kernel)
set_option maxRecDepth 20000 in
theorem gX2_readItems_X2_failHere : GoodIn wsX2_readItems (wsV RX2 36 RX2 yX2_failHere wsX2_failHere) := goodIn_app (goodIn_of _ (by decide +kernel)) ggX2_readItems_X2_failHere
set_option maxRecDepth 20000 in
theorem ggX2_readItems_X1_step : GoodIn wsX2_readItems wsX1_step := goodIn_r _ [13, 9, 14, 15, 16, 17, 18, 19, 20, 7, 21, 22, 23, 24, 25, 26, 143, 144, 145, 146, 147, 148] (by decide +kernel) (by decide +kernel)
set_option maxRecDepth 20000 in
theorem gX2_readItems_X1_step : GoodIn wsX2_readItems (wsV RX2 42 RX1 yX1_step wsX1_step) := goodIn_app (goodIn_of _ (by decide +kernel)) ggX2_readItems_X1_step
theorem dX2_readItems_0 : decode cX2_readItems 0 = .ok (.aload_n 0, 1) := by decide +kernel
theorem dX2_readItems_1 : decode cX2_readItems 1 = .ok (.iconst 0, 1) := by decide +kernel
theorem dX2_readItems_2 : decode cX2_readItems 2 = .ok (.putfield 25, 3) := by decide +kernel
theorem dX2_readItems_5 : decode cX2_readItems 5 = .ok (.aload_n 0, 1) := by decide +kernel
theorem dX2_readItems_6 : decode cX2_readItems 6 = .ok (.getfield 12, 3) := by decide +kernel
theorem dX2_readItems_9 : decode cX2_readItems 9 = .ok (.invokevirtual 29, 3) := by decide +kernel
theorem dX2_readItems_12 : decode cX2_readItems 12 = .ok (.aload_n 0, 1) := by decide +kernel
theorem dX2_readItems_13 : decode cX2_readItems 13 = .ok (.getfield 25, 3) := by decide +kernel
theorem dX2_readItems_16 : decode cX2_readItems 16 = .ok (.bipush 120, 2) := by decide +kernel
theorem dX2_readItems_18 : decode cX2_readItems 18 = .ok (.if_icmp .gt 63, 3) := by decide +kernel
theorem dX2_readItems_21 : decode cX2_readItems 21 = .ok (.aload_n 0, 1) := by decide +kernel
theorem dX2_readItems_22 : decode cX2_readItems 22 = .ok (.invokevirtual 32, 3) := by decide +kernel
theorem dX2_readItems_25 : decode cX2_readItems 25 = .ok (.ifCond .ne 8, 3) := by decide +kernel
theorem dX2_readItems_28 : decode cX2_readItems 28 = .ok (.aload_n 0, 1) := by decide +kernel
theorem dX2_readItems_29 : decode cX2_readItems 29 = .ok (.invokevirtual 36, 3) := by decide +kernel
theorem dX2_readItems_32 : decode cX2_readItems 32 = .ok (.ireturn, 1) := by decide +kernel
theorem dX2_readItems_33 : decode cX2_readItems 33 = .ok (.aload_n 0, 1) := by decide +kernel
theorem dX2_readItems_34 : decode cX2_readItems 34 = .ok (.dup, 1) := by decide +kernel
theorem dX2_readItems_35 : decode cX2_readItems 35 = .ok (.getfield 25, 3) := by decide +kernel
theorem dX2_readItems_38 : decode cX2_readItems 38 = .ok (.iconst 1, 1) := by decide +kernel
theorem dX2_readItems_39 : decode cX2_readItems 39 = .ok (.iadd, 1) := by decide +kernel
theorem dX2_readItems_40 : decode cX2_readItems 40 = .ok (.putfield 25, 3) := by decide +kernel
theorem dX2_readItems_43 : decode cX2_readItems 43 = .ok (.aload_n 0, 1) := by decide +kernel
theorem dX2_readItems_44 : decode cX2_readItems 44 = .ok (.getfield 12, 3) := by decide +kernel
theorem dX2_readItems_47 : decode cX2_readItems 47 = .ok (.getfield 39, 3) := by decide +kernel
theorem dX2_readItems_50 : decode cX2_readItems 50 = .ok (.ifCond .ne 5, 3) := by decide +kernel
theorem dX2_readItems_53 : decode cX2_readItems 53 = .ok (.iconst 1, 1) := by decide +kernel
theorem dX2_readItems_54 : decode cX2_readItems 54 = .ok (.ireturn, 1) := by decide +kernel
theorem dX2_readItems_55 : decode cX2_readItems 55 = .ok (.aload_n 0, 1) := by decide +kernel
theorem dX2_readItems_56 : decode cX2_readItems 56 = .ok (.getfield 12, 3) := by decide +kernel
theorem dX2_readItems_59 : decode cX2_readItems 59 = .ok (.getfield 39, 3) := by decide +kernel
theorem dX2_readItems_62 : decode cX2_readItems 62 = .ok (.iconst 3, 1) := by decide +kernel
theorem dX2_readItems_63 : decode cX2_readItems 63 = .ok (.if_icmp .eq 8, 3) := by decide +kernel
theorem dX2_readItems_66 : decode cX2_readItems 66 = .ok (.aload_n 0, 1) := by decide +kernel
theorem dX2_readItems_67 : decode cX2_readItems 67 = .ok (.invokevirtual 36, 3) := by decide +kernel
theorem dX2_readItems_70 : decode cX2_readItems 70 = .ok (.ireturn, 1) := by decide +kernel
theorem dX2_readItems_71 : decode cX2_readItems 71 = .ok (.aload_n 0, 1) := by decide +kernel
theorem dX2_readItems_72 : decode cX2_readItems 72 = .ok (.getfield 12, 3) := by decide +kernel
theorem dX2_readItems_75 : decode cX2_readItems 75 = .ok (.invokevirtual 42, 3) := by decide +kernel
theorem dX2_readItems_78 : decode cX2_readItems 78 = .ok (.goto (-66), 3) := by decide +kernel
theorem dX2_readItems_81 : decode cX2_readItems 81 = .ok (.aload_n 0, 1) := by decide +kernel
theorem dX2_readItems_82 : decode cX2_readItems 82 = .ok (.invokevirtual 36, 3) := by decide +kernel
theorem dX2_readItems_85 : decode cX2_readItems 85 = .ok (.ireturn, 1) := by decide +kernel
theorem dX2_failHere_0 : decode cX2_failHere 0 = .ok (.aload_n 0, 1) := by decide +kernel
theorem dX2_failHere_1 : decode cX2_failHere 1 = .ok (.aload_n 0, 1) := by decide +kernel
theorem dX2_failHere_2 : decode cX2_failHere 2 = .ok (.getfield 12, 3) := by decide +kernel
theorem dX2_failHere_5 : decode cX2_failHere 5 = .ok (.getfield 45, 3) := by decide +kernel
theorem dX2_failHere_8 : decode cX2_failHere 8 = .ok (.putfield 48, 3) := by decide +kernel
theorem dX2_failHere_11 : decode cX2_failHere 11 = .ok (.iconst 0, 1) := by decide +kernel
theorem dX2_failHere_12 : decode cX2_failHere 12 = .ok (.ireturn, 1) := by decide +kernel
set_option maxRecDepth 20000 in
theorem ggX2_readItem_X1_isWord : GoodIn wsX2_readItem wsX1_isWord := goodIn_r _ [7, 8, 9, 10, 11, 12, 13, 14, 15, 16, 17, 18, 19, 20, 21, 22, 23, 24, 25, 26, 27, 28, 29, 30, 31, 32, 33, 34, 35, 36, 37, 38, 39, 40, 41, 42, 43, 44, 45, 46, 47, 48, 49, 50, 51, 52, 53, 54, 55, 56, 57, 58, 59, 60, 127, 128, 129, 130, 131, 132] (by decide +kernel) (by decide +kernel)
set_option maxRecDepth 20000 in
theorem gX2_readItem_X1_isWord : GoodIn wsX2_readItem (wsV RX2 53 RX1 yX1_isWord wsX1_isWord) := goodIn_app (goodIn_of _ (by decide +kernel)) ggX2_readItem_X1_isWord
set_option maxRecDepth 20000 in
theorem ggX2_readItem_X1_step : GoodIn wsX2_readItem wsX1_step := goodIn_r _ [64, 9, 10, 65, 11, 8, 66, 67, 68, 6, 69, 70, 71, 72, 73, 74, 127, 128, 129, 130, 131, 132] (by decide +kernel) (by decide +kernel)
set_option maxRecDepth 20000 in
theorem gX2_readItem_X1_step : GoodIn wsX2_readItem (wsV RX2 42 RX1 yX1_step wsX1_step) := goodIn_app (goodIn_of _ (by decide +kernel)) ggX2_readItem_X1_step
set_option maxRecDepth 20000 in
theorem ggX2_readItem_X2_readPrize : GoodIn wsX2_readItem wsX2_readPrize := goodIn_r _ [79, 1, 80, 2, 81, 82, 83, 84, 78, 85, 86, 61, 62, 63, 6, 64, 9, 10, 65, 11, 8, 66, 67, 68, 69, 70, 71, 72, 73, 74, 123, 124, 125, 126, 127, 128, 129, 130, 131, 132, 133, 134, 135, 136, 137, 138, 139, 140, 141, 142, 143, 144, 145] (by decide +kernel) (by decide +kernel)
set_option maxRecDepth 20000 in
theorem gX2_readItem_X2_readPrize : GoodIn wsX2_readItem (wsV RX2 57 RX2 yX2_readPrize wsX2_readPrize) := goodIn_app (goodIn_of _ (by decide +kernel)) ggX2_readItem_X2_readPrize
set_option maxRecDepth 20000 in
theorem ggX2_readItem_X2_kindHere : GoodIn wsX2_readItem wsX2_kindHere := goodIn_r _ [90, 1, 91, 92, 78, 93, 3, 4, 5, 6, 7, 8, 9, 10, 11, 12, 13, 14, 15, 16, 17, 18, 19, 20, 21, 22, 23, 24, 25, 26, 27, 28, 29, 30, 31, 32, 33, 34, 35, 36, 37, 38, 39, 40, 41, 42, 43, 44, 45, 46, 47, 48, 49, 50, 51, 52, 53, 54, 55, 56, 57, 58, 59, 60, 123, 124, 125, 126, 127, 128, 129, 130, 131, 132] (by decide +kernel) (by decide +kernel)
set_option maxRecDepth 20000 in
theorem gX2_readItem_X2_kindHere : GoodIn wsX2_readItem (wsV RX2 60 RX2 yX2_kindHere wsX2_kindHere) := goodIn_app (goodIn_of _ (by decide +kernel)) ggX2_readItem_X2_kindHere
set_option maxRecDepth 20000 in
theorem ggX2_readItem_X4_isKind : GoodIn wsX2_readItem wsX4_isKind := goodIn_r _ [96, 97, 98, 95, 99] (by decide +kernel) (by decide +kernel)
set_option maxRecDepth 20000 in
theorem gX2_readItem_X4_isKind_n64 : GoodIn wsX2_readItem (wsX4_isKind) := ggX2_readItem_X4_isKind
set_option maxRecDepth 20000 in
theorem ggX2_readItem_X3_addOne : GoodIn wsX2_readItem wsX3_addOne := goodIn_r _ [104, 105, 106, 107, 108, 109, 110, 133, 134, 135, 136, 137, 138, 139, 140, 141, 142, 143, 144, 145] (by decide +kernel) (by decide +kernel)
set_option maxRecDepth 20000 in
theorem gX2_readItem_X3_addOne : GoodIn wsX2_readItem (wsV RX2 68 RX3 yX3_addOne wsX3_addOne) := goodIn_app (goodIn_of _ (by decide +kernel)) ggX2_readItem_X3_addOne
set_option maxRecDepth 20000 in
theorem ggX2_readItem_X2_readTraits : GoodIn wsX2_readItem wsX2_readTraits := goodIn_r _ [114, 115, 116, 117, 78, 118, 1, 2, 80, 3, 4, 5, 6, 7, 8, 9, 10, 11, 12, 13, 14, 15, 16, 17, 18, 19, 20, 21, 22, 23, 24, 25, 26, 27, 28, 29, 30, 31, 32, 33, 34, 35, 36, 37, 38, 39, 40, 41, 42, 43, 44, 45, 46, 47, 48, 49, 50, 51, 52, 53, 54, 55, 56, 57, 58, 59, 60, 61, 62, 63, 64, 65, 66, 67, 68, 69, 70, 71, 72, 73, 74, 82, 83, 84, 85, 86, 119, 120, 121, 103, 122, 106, 107, 108, 109, 110, 123, 124, 125, 126, 127, 128, 129, 130, 131, 132, 133, 134, 135, 136, 137, 138, 139, 140, 141, 142, 143, 144, 145] (by decide +kernel) (by decide +kernel)
set_option maxRecDepth 20000 in
theorem gX2_readItem_X2_readTraits : GoodIn wsX2_readItem (wsV RX2 72 RX2 yX2_readTraits wsX2_readTraits) := goodIn_app (goodIn_of _ (by decide +kernel)) ggX2_readItem_X2_readTraits
theorem dX2_readItem_0 : decode cX2_readItem 0 = .ok (.aload_n 0, 1) := by decide +kernel
theorem dX2_readItem_1 : decode cX2_readItem 1 = .ok (.getfield 12, 3) := by decide +kernel
theorem dX2_readItem_4 : decode cX2_readItem 4 = .ok (.ldc 51, 2) := by decide +kernel
theorem dX2_readItem_6 : decode cX2_readItem 6 = .ok (.invokevirtual 53, 3) := by decide +kernel
theorem dX2_readItem_9 : decode cX2_readItem 9 = .ok (.ifCond .eq 15, 3) := by decide +kernel
theorem dX2_readItem_12 : decode cX2_readItem 12 = .ok (.aload_n 0, 1) := by decide +kernel
theorem dX2_readItem_13 : decode cX2_readItem 13 = .ok (.getfield 12, 3) := by decide +kernel
theorem dX2_readItem_16 : decode cX2_readItem 16 = .ok (.invokevirtual 42, 3) := by decide +kernel
theorem dX2_readItem_19 : decode cX2_readItem 19 = .ok (.aload_n 0, 1) := by decide +kernel
theorem dX2_readItem_20 : decode cX2_readItem 20 = .ok (.invokevirtual 57, 3) := by decide +kernel
theorem dX2_readItem_23 : decode cX2_readItem 23 = .ok (.ireturn, 1) := by decide +kernel
theorem dX2_readItem_24 : decode cX2_readItem 24 = .ok (.aload_n 0, 1) := by decide +kernel
theorem dX2_readItem_25 : decode cX2_readItem 25 = .ok (.invokevirtual 60, 3) := by decide +kernel
theorem dX2_readItem_28 : decode cX2_readItem 28 = .ok (.istore_n 1, 1) := by decide +kernel
theorem dX2_readItem_29 : decode cX2_readItem 29 = .ok (.iload_n 1, 1) := by decide +kernel
theorem dX2_readItem_30 : decode cX2_readItem 30 = .ok (.invokestatic 64, 3) := by decide +kernel
theorem dX2_readItem_33 : decode cX2_readItem 33 = .ok (.ifCond .eq 15, 3) := by decide +kernel
theorem dX2_readItem_36 : decode cX2_readItem 36 = .ok (.aload_n 0, 1) := by decide +kernel
theorem dX2_readItem_37 : decode cX2_readItem 37 = .ok (.getfield 21, 3) := by decide +kernel
theorem dX2_readItem_40 : decode cX2_readItem 40 = .ok (.iload_n 1, 1) := by decide +kernel
theorem dX2_readItem_41 : decode cX2_readItem 41 = .ok (.iconst 0, 1) := by decide +kernel
theorem dX2_readItem_42 : decode cX2_readItem 42 = .ok (.invokevirtual 68, 3) := by decide +kernel
theorem dX2_readItem_45 : decode cX2_readItem 45 = .ok (.goto 4, 3) := by decide +kernel
theorem dX2_readItem_48 : decode cX2_readItem 48 = .ok (.iconst (-1), 1) := by decide +kernel
theorem dX2_readItem_49 : decode cX2_readItem 49 = .ok (.istore_n 2, 1) := by decide +kernel
theorem dX2_readItem_50 : decode cX2_readItem 50 = .ok (.iload_n 2, 1) := by decide +kernel
theorem dX2_readItem_51 : decode cX2_readItem 51 = .ok (.iconst (-1), 1) := by decide +kernel
theorem dX2_readItem_52 : decode cX2_readItem 52 = .ok (.if_icmp .ne 5, 3) := by decide +kernel
theorem dX2_readItem_55 : decode cX2_readItem 55 = .ok (.iconst 0, 1) := by decide +kernel
theorem dX2_readItem_56 : decode cX2_readItem 56 = .ok (.ireturn, 1) := by decide +kernel
theorem dX2_readItem_57 : decode cX2_readItem 57 = .ok (.aload_n 0, 1) := by decide +kernel
theorem dX2_readItem_58 : decode cX2_readItem 58 = .ok (.getfield 12, 3) := by decide +kernel
theorem dX2_readItem_61 : decode cX2_readItem 61 = .ok (.invokevirtual 42, 3) := by decide +kernel
theorem dX2_readItem_64 : decode cX2_readItem 64 = .ok (.aload_n 0, 1) := by decide +kernel
theorem dX2_readItem_65 : decode cX2_readItem 65 = .ok (.iload_n 2, 1) := by decide +kernel
theorem dX2_readItem_66 : decode cX2_readItem 66 = .ok (.invokevirtual 72, 3) := by decide +kernel
theorem dX2_readItem_69 : decode cX2_readItem 69 = .ok (.ireturn, 1) := by decide +kernel
set_option maxRecDepth 20000 in
theorem ggX2_kindHere_X2_nameOf : GoodIn wsX2_kindHere wsX2_nameOf := goodIn_r _ [5] (by decide +kernel) (by decide +kernel)
set_option maxRecDepth 20000 in
theorem gX2_kindHere_X2_nameOf : GoodIn wsX2_kindHere (va_wsS RX2 75 yX2_nameOf wsX2_nameOf) := goodIn_app (goodIn_of _ (by decide +kernel)) ggX2_kindHere_X2_nameOf
set_option maxRecDepth 20000 in
theorem ggX2_kindHere_X1_isWord : GoodIn wsX2_kindHere wsX1_isWord := goodIn_r _ [10, 11, 12, 13, 14, 15, 16, 17, 18, 19, 20, 21, 22, 23, 24, 25, 26, 27, 28, 29, 30, 31, 32, 33, 34, 35, 36, 37, 38, 39, 40, 41, 42, 43, 44, 45, 46, 47, 48, 49, 50, 51, 52, 53, 54, 55, 56, 57, 58, 59, 60, 61, 62, 63, 68, 69, 70, 71, 72, 73] (by decide +kernel) (by decide +kernel)
set_option maxRecDepth 20000 in
theorem gX2_kindHere_X1_isWord : GoodIn wsX2_kindHere (wsV RX2 53 RX1 yX1_isWord wsX1_isWord) := goodIn_app (goodIn_of _ (by decide +kernel)) ggX2_kindHere_X1_isWord
theorem dX2_kindHere_0 : decode cX2_kindHere 0 = .ok (.iconst 0, 1) := by decide +kernel
theorem dX2_kindHere_1 : decode cX2_kindHere 1 = .ok (.istore_n 1, 1) := by decide +kernel
theorem dX2_kindHere_2 : decode cX2_kindHere 2 = .ok (.iload_n 1, 1) := by decide +kernel
theorem dX2_kindHere_3 : decode cX2_kindHere 3 = .ok (.bipush 7, 2) := by decide +kernel
theorem dX2_kindHere_5 : decode cX2_kindHere 5 = .ok (.if_icmp .ge 25, 3) := by decide +kernel
theorem dX2_kindHere_8 : decode cX2_kindHere 8 = .ok (.aload_n 0, 1) := by decide +kernel
theorem dX2_kindHere_9 : decode cX2_kindHere 9 = .ok (.getfield 12, 3) := by decide +kernel
theorem dX2_kindHere_12 : decode cX2_kindHere 12 = .ok (.iload_n 1, 1) := by decide +kernel
theorem dX2_kindHere_13 : decode cX2_kindHere 13 = .ok (.invokestatic 75, 3) := by decide +kernel
theorem dX2_kindHere_16 : decode cX2_kindHere 16 = .ok (.invokevirtual 53, 3) := by decide +kernel
theorem dX2_kindHere_19 : decode cX2_kindHere 19 = .ok (.ifCond .eq 5, 3) := by decide +kernel
theorem dX2_kindHere_22 : decode cX2_kindHere 22 = .ok (.iload_n 1, 1) := by decide +kernel
theorem dX2_kindHere_23 : decode cX2_kindHere 23 = .ok (.ireturn, 1) := by decide +kernel
theorem dX2_kindHere_24 : decode cX2_kindHere 24 = .ok (.iinc 1 1, 3) := by decide +kernel
theorem dX2_kindHere_27 : decode cX2_kindHere 27 = .ok (.goto (-25), 3) := by decide +kernel
theorem dX2_kindHere_30 : decode cX2_kindHere 30 = .ok (.iconst (-1), 1) := by decide +kernel
theorem dX2_kindHere_31 : decode cX2_kindHere 31 = .ok (.ireturn, 1) := by decide +kernel
set_option maxRecDepth 20000 in
theorem ggX2_readPrize_X2_isNumberHere : GoodIn wsX2_readPrize wsX2_isNumberHere := goodIn_r _ [9, 1, 10, 2, 30, 31, 32, 33, 34, 35, 36, 37, 38, 39] (by decide +kernel) (by decide +kernel)
set_option maxRecDepth 20000 in
theorem gX2_readPrize_X2_isNumberHere : GoodIn wsX2_readPrize (wsV RX2 79 RX2 yX2_isNumberHere wsX2_isNumberHere) := goodIn_app (goodIn_of _ (by decide +kernel)) ggX2_readPrize_X2_isNumberHere
set_option maxRecDepth 20000 in
theorem ggX2_readPrize_X1_step : GoodIn wsX2_readPrize wsX1_step := goodIn_r _ [15, 16, 17, 18, 19, 20, 21, 22, 23, 14, 24, 25, 26, 27, 28, 29, 34, 35, 36, 37, 38, 39] (by decide +kernel) (by decide +kernel)
set_option maxRecDepth 20000 in
theorem gX2_readPrize_X1_step : GoodIn wsX2_readPrize (wsV RX2 42 RX1 yX1_step wsX1_step) := goodIn_app (goodIn_of _ (by decide +kernel)) ggX2_readPrize_X1_step
theorem dX2_readPrize_0 : decode cX2_readPrize 0 = .ok (.aload_n 0, 1) := by decide +kernel
theorem dX2_readPrize_1 : decode cX2_readPrize 1 = .ok (.bipush 7, 2) := by decide +kernel
theorem dX2_readPrize_3 : decode cX2_readPrize 3 = .ok (.invokevirtual 79, 3) := by decide +kernel
theorem dX2_readPrize_6 : decode cX2_readPrize 6 = .ok (.ifCond .ne 5, 3) := by decide +kernel
theorem dX2_readPrize_9 : decode cX2_readPrize 9 = .ok (.iconst 0, 1) := by decide +kernel
theorem dX2_readPrize_10 : decode cX2_readPrize 10 = .ok (.ireturn, 1) := by decide +kernel
theorem dX2_readPrize_11 : decode cX2_readPrize 11 = .ok (.aload_n 0, 1) := by decide +kernel
theorem dX2_readPrize_12 : decode cX2_readPrize 12 = .ok (.getfield 12, 3) := by decide +kernel
theorem dX2_readPrize_15 : decode cX2_readPrize 15 = .ok (.getfield 82, 3) := by decide +kernel
theorem dX2_readPrize_18 : decode cX2_readPrize 18 = .ok (.istore_n 1, 1) := by decide +kernel
theorem dX2_readPrize_19 : decode cX2_readPrize 19 = .ok (.aload_n 0, 1) := by decide +kernel
theorem dX2_readPrize_20 : decode cX2_readPrize 20 = .ok (.getfield 12, 3) := by decide +kernel
theorem dX2_readPrize_23 : decode cX2_readPrize 23 = .ok (.invokevirtual 42, 3) := by decide +kernel
theorem dX2_readPrize_26 : decode cX2_readPrize 26 = .ok (.aload_n 0, 1) := by decide +kernel
theorem dX2_readPrize_27 : decode cX2_readPrize 27 = .ok (.sipush 9999, 3) := by decide +kernel
theorem dX2_readPrize_30 : decode cX2_readPrize 30 = .ok (.invokevirtual 79, 3) := by decide +kernel
theorem dX2_readPrize_33 : decode cX2_readPrize 33 = .ok (.ifCond .ne 5, 3) := by decide +kernel
theorem dX2_readPrize_36 : decode cX2_readPrize 36 = .ok (.iconst 0, 1) := by decide +kernel
theorem dX2_readPrize_37 : decode cX2_readPrize 37 = .ok (.ireturn, 1) := by decide +kernel
theorem dX2_readPrize_38 : decode cX2_readPrize 38 = .ok (.aload_n 0, 1) := by decide +kernel
theorem dX2_readPrize_39 : decode cX2_readPrize 39 = .ok (.getfield 21, 3) := by decide +kernel
theorem dX2_readPrize_42 : decode cX2_readPrize 42 = .ok (.getfield 85, 3) := by decide +kernel
theorem dX2_readPrize_45 : decode cX2_readPrize 45 = .ok (.iload_n 1, 1) := by decide +kernel
theorem dX2_readPrize_46 : decode cX2_readPrize 46 = .ok (.aload_n 0, 1) := by decide +kernel
theorem dX2_readPrize_47 : decode cX2_readPrize 47 = .ok (.getfield 12, 3) := by decide +kernel
theorem dX2_readPrize_50 : decode cX2_readPrize 50 = .ok (.getfield 82, 3) := by decide +kernel
theorem dX2_readPrize_53 : decode cX2_readPrize 53 = .ok (.iastore, 1) := by decide +kernel
theorem dX2_readPrize_54 : decode cX2_readPrize 54 = .ok (.aload_n 0, 1) := by decide +kernel
theorem dX2_readPrize_55 : decode cX2_readPrize 55 = .ok (.getfield 12, 3) := by decide +kernel
theorem dX2_readPrize_58 : decode cX2_readPrize 58 = .ok (.invokevirtual 42, 3) := by decide +kernel
theorem dX2_readPrize_61 : decode cX2_readPrize 61 = .ok (.iconst 1, 1) := by decide +kernel
theorem dX2_readPrize_62 : decode cX2_readPrize 62 = .ok (.ireturn, 1) := by decide +kernel
set_option maxRecDepth 20000 in
theorem ggX2_readTraits_X2_readTrait : GoodIn wsX2_readTraits wsX2_readTrait := goodIn_r _ [5, 6, 7, 8, 9, 10, 11, 12, 13, 14, 15, 16, 17, 18, 19, 20, 21, 22, 23, 24, 25, 26, 27, 28, 29, 30, 31, 32, 33, 34, 35, 36, 37, 38, 39, 40, 41, 42, 43, 44, 45, 46, 47, 48, 49, 50, 51, 52, 53, 54, 55, 56, 57, 58, 59, 60, 61, 62, 63, 64, 65, 66, 67, 68, 69, 70, 71, 72, 73, 74, 75, 76, 77, 78, 79, 80, 81, 82, 83, 4, 84, 85, 86, 87, 88, 89, 90, 91, 92, 93, 94, 95, 96, 97, 98, 99, 100, 101, 102, 103, 104, 105, 106, 107, 108, 109, 110, 111, 112, 113, 114, 115, 116, 117, 118] (by decide +kernel) (by decide +kernel)
set_option maxRecDepth 20000 in
theorem gX2_readTraits_X2_readTrait : GoodIn wsX2_readTraits (wsV RX2 91 RX2 yX2_readTrait wsX2_readTrait) := goodIn_app (goodIn_of _ (by decide +kernel)) ggX2_readTraits_X2_readTrait
theorem dX2_readTraits_0 : decode cX2_readTraits 0 = .ok (.aload_n 0, 1) := by decide +kernel
theorem dX2_readTraits_1 : decode cX2_readTraits 1 = .ok (.ldc 89, 2) := by decide +kernel
theorem dX2_readTraits_3 : decode cX2_readTraits 3 = .ok (.iload_n 1, 1) := by decide +kernel
theorem dX2_readTraits_4 : decode cX2_readTraits 4 = .ok (.iconst 1, 1) := by decide +kernel
theorem dX2_readTraits_5 : decode cX2_readTraits 5 = .ok (.bipush 7, 2) := by decide +kernel
theorem dX2_readTraits_7 : decode cX2_readTraits 7 = .ok (.invokevirtual 91, 3) := by decide +kernel
theorem dX2_readTraits_10 : decode cX2_readTraits 10 = .ok (.ifCond .eq 34, 3) := by decide +kernel
theorem dX2_readTraits_13 : decode cX2_readTraits 13 = .ok (.aload_n 0, 1) := by decide +kernel
theorem dX2_readTraits_14 : decode cX2_readTraits 14 = .ok (.ldc 95, 2) := by decide +kernel
theorem dX2_readTraits_16 : decode cX2_readTraits 16 = .ok (.iload_n 1, 1) := by decide +kernel
theorem dX2_readTraits_17 : decode cX2_readTraits 17 = .ok (.iconst 2, 1) := by decide +kernel
theorem dX2_readTraits_18 : decode cX2_readTraits 18 = .ok (.bipush 7, 2) := by decide +kernel
theorem dX2_readTraits_20 : decode cX2_readTraits 20 = .ok (.invokevirtual 91, 3) := by decide +kernel
theorem dX2_readTraits_23 : decode cX2_readTraits 23 = .ok (.ifCond .eq 21, 3) := by decide +kernel
theorem dX2_readTraits_26 : decode cX2_readTraits 26 = .ok (.aload_n 0, 1) := by decide +kernel
theorem dX2_readTraits_27 : decode cX2_readTraits 27 = .ok (.ldc 97, 2) := by decide +kernel
theorem dX2_readTraits_29 : decode cX2_readTraits 29 = .ok (.iload_n 1, 1) := by decide +kernel
theorem dX2_readTraits_30 : decode cX2_readTraits 30 = .ok (.iconst 3, 1) := by decide +kernel
theorem dX2_readTraits_31 : decode cX2_readTraits 31 = .ok (.iload_n 1, 1) := by decide +kernel
theorem dX2_readTraits_32 : decode cX2_readTraits 32 = .ok (.iconst 1, 1) := by decide +kernel
theorem dX2_readTraits_33 : decode cX2_readTraits 33 = .ok (.isub, 1) := by decide +kernel
theorem dX2_readTraits_34 : decode cX2_readTraits 34 = .ok (.invokevirtual 91, 3) := by decide +kernel
theorem dX2_readTraits_37 : decode cX2_readTraits 37 = .ok (.ifCond .eq 7, 3) := by decide +kernel
theorem dX2_readTraits_40 : decode cX2_readTraits 40 = .ok (.iconst 1, 1) := by decide +kernel
theorem dX2_readTraits_41 : decode cX2_readTraits 41 = .ok (.goto 4, 3) := by decide +kernel
theorem dX2_readTraits_44 : decode cX2_readTraits 44 = .ok (.iconst 0, 1) := by decide +kernel
theorem dX2_readTraits_45 : decode cX2_readTraits 45 = .ok (.ireturn, 1) := by decide +kernel
set_option maxRecDepth 20000 in
theorem ggX2_readTrait_X1_isWord : GoodIn wsX2_readTrait wsX1_isWord := goodIn_r _ [8, 9, 10, 11, 12, 13, 14, 15, 16, 17, 18, 19, 20, 21, 22, 23, 24, 25, 26, 27, 28, 29, 30, 31, 32, 33, 34, 35, 36, 37, 38, 39, 40, 41, 42, 43, 44, 45, 46, 47, 48, 49, 50, 51, 52, 53, 54, 55, 56, 57, 58, 59, 60, 61, 96, 97, 98, 99, 100, 101] (by decide +kernel) (by decide +kernel)
set_option maxRecDepth 20000 in
theorem gX2_readTrait_X1_isWord : GoodIn wsX2_readTrait (wsV RX2 53 RX1 yX1_isWord wsX1_isWord) := goodIn_app (goodIn_of _ (by decide +kernel)) ggX2_readTrait_X1_isWord
set_option maxRecDepth 20000 in
theorem ggX2_readTrait_X1_step : GoodIn wsX2_readTrait wsX1_step := goodIn_r _ [65, 10, 11, 66, 12, 9, 67, 68, 69, 7, 70, 71, 72, 73, 74, 75, 96, 97, 98, 99, 100, 101] (by decide +kernel) (by decide +kernel)
set_option maxRecDepth 20000 in
theorem gX2_readTrait_X1_step : GoodIn wsX2_readTrait (wsV RX2 42 RX1 yX1_step wsX1_step) := goodIn_app (goodIn_of _ (by decide +kernel)) ggX2_readTrait_X1_step
set_option maxRecDepth 20000 in
theorem ggX2_readTrait_X2_isNumberHere : GoodIn wsX2_readTrait wsX2_isNumberHere := goodIn_r _ [80, 1, 81, 3, 92, 93, 94, 95, 96, 97, 98, 99, 100, 101] (by decide +kernel) (by decide +kernel)
set_option maxRecDepth 20000 in
theorem gX2_readTrait_X2_isNumberHere : GoodIn wsX2_readTrait (wsV RX2 79 RX2 yX2_isNumberHere wsX2_isNumberHere) := goodIn_app (goodIn_of _ (by decide +kernel)) ggX2_readTrait_X2_isNumberHere
set_option maxRecDepth 20000 in
theorem ggX2_readTrait_X3_setTrait : GoodIn wsX2_readTrait wsX3_setTrait := goodIn_r _ [86, 87, 88, 89, 90, 91, 102, 103, 104, 105, 106, 107, 108, 109, 110, 111, 112, 113, 114] (by decide +kernel) (by decide +kernel)
set_option maxRecDepth 20000 in
theorem gX2_readTrait_X3_setTrait : GoodIn wsX2_readTrait (wsV RX2 99 RX3 yX3_setTrait wsX3_setTrait) := goodIn_app (goodIn_of _ (by decide +kernel)) ggX2_readTrait_X3_setTrait
theorem dX2_readTrait_0 : decode cX2_readTrait 0 = .ok (.aload_n 0, 1) := by decide +kernel
theorem dX2_readTrait_1 : decode cX2_readTrait 1 = .ok (.getfield 12, 3) := by decide +kernel
theorem dX2_readTrait_4 : decode cX2_readTrait 4 = .ok (.aload_n 1, 1) := by decide +kernel
theorem dX2_readTrait_5 : decode cX2_readTrait 5 = .ok (.invokevirtual 53, 3) := by decide +kernel
theorem dX2_readTrait_8 : decode cX2_readTrait 8 = .ok (.ifCond .ne 5, 3) := by decide +kernel
theorem dX2_readTrait_11 : decode cX2_readTrait 11 = .ok (.iconst 1, 1) := by decide +kernel
theorem dX2_readTrait_12 : decode cX2_readTrait 12 = .ok (.ireturn, 1) := by decide +kernel
theorem dX2_readTrait_13 : decode cX2_readTrait 13 = .ok (.aload_n 0, 1) := by decide +kernel
theorem dX2_readTrait_14 : decode cX2_readTrait 14 = .ok (.getfield 12, 3) := by decide +kernel
theorem dX2_readTrait_17 : decode cX2_readTrait 17 = .ok (.invokevirtual 42, 3) := by decide +kernel
theorem dX2_readTrait_20 : decode cX2_readTrait 20 = .ok (.aload_n 0, 1) := by decide +kernel
theorem dX2_readTrait_21 : decode cX2_readTrait 21 = .ok (.iload 4, 2) := by decide +kernel
theorem dX2_readTrait_23 : decode cX2_readTrait 23 = .ok (.invokevirtual 79, 3) := by decide +kernel
theorem dX2_readTrait_26 : decode cX2_readTrait 26 = .ok (.ifCond .ne 5, 3) := by decide +kernel
theorem dX2_readTrait_29 : decode cX2_readTrait 29 = .ok (.iconst 0, 1) := by decide +kernel
theorem dX2_readTrait_30 : decode cX2_readTrait 30 = .ok (.ireturn, 1) := by decide +kernel
theorem dX2_readTrait_31 : decode cX2_readTrait 31 = .ok (.aload_n 0, 1) := by decide +kernel
theorem dX2_readTrait_32 : decode cX2_readTrait 32 = .ok (.getfield 21, 3) := by decide +kernel
theorem dX2_readTrait_35 : decode cX2_readTrait 35 = .ok (.iload_n 2, 1) := by decide +kernel
theorem dX2_readTrait_36 : decode cX2_readTrait 36 = .ok (.iload_n 3, 1) := by decide +kernel
theorem dX2_readTrait_37 : decode cX2_readTrait 37 = .ok (.aload_n 0, 1) := by decide +kernel
theorem dX2_readTrait_38 : decode cX2_readTrait 38 = .ok (.getfield 12, 3) := by decide +kernel
theorem dX2_readTrait_41 : decode cX2_readTrait 41 = .ok (.getfield 82, 3) := by decide +kernel
theorem dX2_readTrait_44 : decode cX2_readTrait 44 = .ok (.invokevirtual 99, 3) := by decide +kernel
theorem dX2_readTrait_47 : decode cX2_readTrait 47 = .ok (.aload_n 0, 1) := by decide +kernel
theorem dX2_readTrait_48 : decode cX2_readTrait 48 = .ok (.getfield 12, 3) := by decide +kernel
theorem dX2_readTrait_51 : decode cX2_readTrait 51 = .ok (.invokevirtual 42, 3) := by decide +kernel
theorem dX2_readTrait_54 : decode cX2_readTrait 54 = .ok (.iconst 1, 1) := by decide +kernel
theorem dX2_readTrait_55 : decode cX2_readTrait 55 = .ok (.ireturn, 1) := by decide +kernel
theorem dX2_isNumberHere_0 : decode cX2_isNumberHere 0 = .ok (.aload_n 0, 1) := by decide +kernel
theorem dX2_isNumberHere_1 : decode cX2_isNumberHere 1 = .ok (.getfield 12, 3) := by decide +kernel
theorem dX2_isNumberHere_4 : decode cX2_isNumberHere 4 = .ok (.getfield 39, 3) := by decide +kernel
theorem dX2_isNumberHere_7 : decode cX2_isNumberHere 7 = .ok (.iconst 2, 1) := by decide +kernel
theorem dX2_isNumberHere_8 : decode cX2_isNumberHere 8 = .ok (.if_icmp .ne 18, 3) := by decide +kernel
theorem dX2_isNumberHere_11 : decode cX2_isNumberHere 11 = .ok (.aload_n 0, 1) := by decide +kernel
theorem dX2_isNumberHere_12 : decode cX2_isNumberHere 12 = .ok (.getfield 12, 3) := by decide +kernel
theorem dX2_isNumberHere_15 : decode cX2_isNumberHere 15 = .ok (.getfield 82, 3) := by decide +kernel
theorem dX2_isNumberHere_18 : decode cX2_isNumberHere 18 = .ok (.iload_n 1, 1) := by decide +kernel
theorem dX2_isNumberHere_19 : decode cX2_isNumberHere 19 = .ok (.if_icmp .gt 7, 3) := by decide +kernel
theorem dX2_isNumberHere_22 : decode cX2_isNumberHere 22 = .ok (.iconst 1, 1) := by decide +kernel
theorem dX2_isNumberHere_23 : decode cX2_isNumberHere 23 = .ok (.goto 4, 3) := by decide +kernel
theorem dX2_isNumberHere_26 : decode cX2_isNumberHere 26 = .ok (.iconst 0, 1) := by decide +kernel
theorem dX2_isNumberHere_27 : decode cX2_isNumberHere 27 = .ok (.ireturn, 1) := by decide +kernel
theorem dX2_nameOf_0 : decode cX2_nameOf 0 = .ok (.iload_n 0, 1) := by decide +kernel
theorem dX2_nameOf_1 : decode cX2_nameOf 1 = .ok (.tableswitch 57 0 5 #[39, 42, 45, 48, 51, 54], 39) := by decide +kernel
theorem dX2_nameOf_40 : decode cX2_nameOf 40 = .ok (.ldc 103, 2) := by decide +kernel
theorem dX2_nameOf_42 : decode cX2_nameOf 42 = .ok (.areturn, 1) := by decide +kernel
theorem dX2_nameOf_43 : decode cX2_nameOf 43 = .ok (.ldc 105, 2) := by decide +kernel
theorem dX2_nameOf_45 : decode cX2_nameOf 45 = .ok (.areturn, 1) := by decide +kernel
theorem dX2_nameOf_46 : decode cX2_nameOf 46 = .ok (.ldc 107, 2) := by decide +kernel
theorem dX2_nameOf_48 : decode cX2_nameOf 48 = .ok (.areturn, 1) := by decide +kernel
theorem dX2_nameOf_49 : decode cX2_nameOf 49 = .ok (.ldc 109, 2) := by decide +kernel
theorem dX2_nameOf_51 : decode cX2_nameOf 51 = .ok (.areturn, 1) := by decide +kernel
theorem dX2_nameOf_52 : decode cX2_nameOf 52 = .ok (.ldc 111, 2) := by decide +kernel
theorem dX2_nameOf_54 : decode cX2_nameOf 54 = .ok (.areturn, 1) := by decide +kernel
theorem dX2_nameOf_55 : decode cX2_nameOf 55 = .ok (.ldc 113, 2) := by decide +kernel
theorem dX2_nameOf_57 : decode cX2_nameOf 57 = .ok (.areturn, 1) := by decide +kernel
theorem dX2_nameOf_58 : decode cX2_nameOf 58 = .ok (.ldc 115, 2) := by decide +kernel
theorem dX2_nameOf_60 : decode cX2_nameOf 60 = .ok (.areturn, 1) := by decide +kernel
set_option maxRecDepth 20000 in
theorem ggX3_init_J7_fill_53178 : GoodIn wsX3_init wsJ7_fill_53178 := goodIn_r _ [21] (by decide +kernel) (by decide +kernel)
set_option maxRecDepth 20000 in
theorem gX3_init_J7_fill_53178 : GoodIn wsX3_init (va_wsS RX3 42 yJ7_fill_53178 wsJ7_fill_53178) := goodIn_app (goodIn_of _ (by decide +kernel)) ggX3_init_J7_fill_53178
theorem dX3_init_0 : decode cX3_init 0 = .ok (.aload_n 0, 1) := by decide +kernel
theorem dX3_init_1 : decode cX3_init 1 = .ok (.invokespecial 3, 3) := by decide +kernel
theorem dX3_init_4 : decode cX3_init 4 = .ok (.aload_n 0, 1) := by decide +kernel
theorem dX3_init_5 : decode cX3_init 5 = .ok (.bipush 8, 2) := by decide +kernel
theorem dX3_init_7 : decode cX3_init 7 = .ok (.newarray .int, 2) := by decide +kernel
theorem dX3_init_9 : decode cX3_init 9 = .ok (.putfield 9, 3) := by decide +kernel
theorem dX3_init_12 : decode cX3_init 12 = .ok (.aload_n 0, 1) := by decide +kernel
theorem dX3_init_13 : decode cX3_init 13 = .ok (.bipush 8, 2) := by decide +kernel
theorem dX3_init_15 : decode cX3_init 15 = .ok (.newarray .int, 2) := by decide +kernel
theorem dX3_init_17 : decode cX3_init 17 = .ok (.putfield 15, 3) := by decide +kernel
theorem dX3_init_20 : decode cX3_init 20 = .ok (.aload_n 0, 1) := by decide +kernel
theorem dX3_init_21 : decode cX3_init 21 = .ok (.bipush 8, 2) := by decide +kernel
theorem dX3_init_23 : decode cX3_init 23 = .ok (.newarray .int, 2) := by decide +kernel
theorem dX3_init_25 : decode cX3_init 25 = .ok (.putfield 18, 3) := by decide +kernel
theorem dX3_init_28 : decode cX3_init 28 = .ok (.aload_n 0, 1) := by decide +kernel
theorem dX3_init_29 : decode cX3_init 29 = .ok (.bipush 8, 2) := by decide +kernel
theorem dX3_init_31 : decode cX3_init 31 = .ok (.newarray .int, 2) := by decide +kernel
theorem dX3_init_33 : decode cX3_init 33 = .ok (.putfield 21, 3) := by decide +kernel
theorem dX3_init_36 : decode cX3_init 36 = .ok (.aload_n 0, 1) := by decide +kernel
theorem dX3_init_37 : decode cX3_init 37 = .ok (.bipush 8, 2) := by decide +kernel
theorem dX3_init_39 : decode cX3_init 39 = .ok (.newarray .int, 2) := by decide +kernel
theorem dX3_init_41 : decode cX3_init 41 = .ok (.putfield 24, 3) := by decide +kernel
theorem dX3_init_44 : decode cX3_init 44 = .ok (.aload_n 0, 1) := by decide +kernel
theorem dX3_init_45 : decode cX3_init 45 = .ok (.bipush 8, 2) := by decide +kernel
theorem dX3_init_47 : decode cX3_init 47 = .ok (.newarray .int, 2) := by decide +kernel
theorem dX3_init_49 : decode cX3_init 49 = .ok (.putfield 27, 3) := by decide +kernel
theorem dX3_init_52 : decode cX3_init 52 = .ok (.aload_n 0, 1) := by decide +kernel
theorem dX3_init_53 : decode cX3_init 53 = .ok (.bipush 10, 2) := by decide +kernel
theorem dX3_init_55 : decode cX3_init 55 = .ok (.newarray .int, 2) := by decide +kernel
theorem dX3_init_57 : decode cX3_init 57 = .ok (.putfield 30, 3) := by decide +kernel
theorem dX3_init_60 : decode cX3_init 60 = .ok (.aload_n 0, 1) := by decide +kernel
theorem dX3_init_61 : decode cX3_init 61 = .ok (.bipush 8, 2) := by decide +kernel
theorem dX3_init_63 : decode cX3_init 63 = .ok (.newarray .int, 2) := by decide +kernel
theorem dX3_init_65 : decode cX3_init 65 = .ok (.putfield 33, 3) := by decide +kernel
theorem dX3_init_68 : decode cX3_init 68 = .ok (.aload_n 0, 1) := by decide +kernel
theorem dX3_init_69 : decode cX3_init 69 = .ok (.bipush 8, 2) := by decide +kernel
theorem dX3_init_71 : decode cX3_init 71 = .ok (.newarray .int, 2) := by decide +kernel
theorem dX3_init_73 : decode cX3_init 73 = .ok (.putfield 36, 3) := by decide +kernel
theorem dX3_init_76 : decode cX3_init 76 = .ok (.aload_n 0, 1) := by decide +kernel
theorem dX3_init_77 : decode cX3_init 77 = .ok (.bipush 8, 2) := by decide +kernel
theorem dX3_init_79 : decode cX3_init 79 = .ok (.newarray .int, 2) := by decide +kernel
theorem dX3_init_81 : decode cX3_init 81 = .ok (.putfield 39, 3) := by decide +kernel
theorem dX3_init_84 : decode cX3_init 84 = .ok (.aload_n 0, 1) := by decide +kernel
theorem dX3_init_85 : decode cX3_init 85 = .ok (.getfield 9, 3) := by decide +kernel
theorem dX3_init_88 : decode cX3_init 88 = .ok (.bipush 10, 2) := by decide +kernel
theorem dX3_init_90 : decode cX3_init 90 = .ok (.invokestatic 42, 3) := by decide +kernel
theorem dX3_init_93 : decode cX3_init 93 = .ok (.aload_n 0, 1) := by decide +kernel
theorem dX3_init_94 : decode cX3_init 94 = .ok (.getfield 30, 3) := by decide +kernel
theorem dX3_init_97 : decode cX3_init 97 = .ok (.iconst (-1), 1) := by decide +kernel
theorem dX3_init_98 : decode cX3_init 98 = .ok (.invokestatic 42, 3) := by decide +kernel
theorem dX3_init_101 : decode cX3_init 101 = .ok (.aload_n 0, 1) := by decide +kernel
theorem dX3_init_102 : decode cX3_init 102 = .ok (.iconst 0, 1) := by decide +kernel
theorem dX3_init_103 : decode cX3_init 103 = .ok (.putfield 48, 3) := by decide +kernel
theorem dX3_init_106 : decode cX3_init 106 = .ok (.aload_n 0, 1) := by decide +kernel
theorem dX3_init_107 : decode cX3_init 107 = .ok (.iconst 0, 1) := by decide +kernel
theorem dX3_init_108 : decode cX3_init 108 = .ok (.putfield 52, 3) := by decide +kernel
theorem dX3_init_111 : decode cX3_init 111 = .ok (.aload_n 0, 1) := by decide +kernel
theorem dX3_init_112 : decode cX3_init 112 = .ok (.iconst 1, 1) := by decide +kernel
theorem dX3_init_113 : decode cX3_init 113 = .ok (.putfield 55, 3) := by decide +kernel
theorem dX3_init_116 : decode cX3_init 116 = .ok (.return_, 1) := by decide +kernel
theorem dX3_become_0 : decode cX3_become 0 = .ok (.aload_n 1, 1) := by decide +kernel
theorem dX3_become_1 : decode cX3_become 1 = .ok (.getfield 9, 3) := by decide +kernel
theorem dX3_become_4 : decode cX3_become 4 = .ok (.iconst 0, 1) := by decide +kernel
theorem dX3_become_5 : decode cX3_become 5 = .ok (.aload_n 0, 1) := by decide +kernel
theorem dX3_become_6 : decode cX3_become 6 = .ok (.getfield 9, 3) := by decide +kernel
theorem dX3_become_9 : decode cX3_become 9 = .ok (.iconst 0, 1) := by decide +kernel
theorem dX3_become_10 : decode cX3_become 10 = .ok (.bipush 8, 2) := by decide +kernel
theorem dX3_become_12 : decode cX3_become 12 = .ok (.invokestatic 58, 3) := by decide +kernel
theorem dX3_become_15 : decode cX3_become 15 = .ok (.aload_n 1, 1) := by decide +kernel
theorem dX3_become_16 : decode cX3_become 16 = .ok (.getfield 15, 3) := by decide +kernel
theorem dX3_become_19 : decode cX3_become 19 = .ok (.iconst 0, 1) := by decide +kernel
theorem dX3_become_20 : decode cX3_become 20 = .ok (.aload_n 0, 1) := by decide +kernel
theorem dX3_become_21 : decode cX3_become 21 = .ok (.getfield 15, 3) := by decide +kernel
theorem dX3_become_24 : decode cX3_become 24 = .ok (.iconst 0, 1) := by decide +kernel
theorem dX3_become_25 : decode cX3_become 25 = .ok (.bipush 8, 2) := by decide +kernel
theorem dX3_become_27 : decode cX3_become 27 = .ok (.invokestatic 58, 3) := by decide +kernel
theorem dX3_become_30 : decode cX3_become 30 = .ok (.aload_n 1, 1) := by decide +kernel
theorem dX3_become_31 : decode cX3_become 31 = .ok (.getfield 18, 3) := by decide +kernel
theorem dX3_become_34 : decode cX3_become 34 = .ok (.iconst 0, 1) := by decide +kernel
theorem dX3_become_35 : decode cX3_become 35 = .ok (.aload_n 0, 1) := by decide +kernel
theorem dX3_become_36 : decode cX3_become 36 = .ok (.getfield 18, 3) := by decide +kernel
theorem dX3_become_39 : decode cX3_become 39 = .ok (.iconst 0, 1) := by decide +kernel
theorem dX3_become_40 : decode cX3_become 40 = .ok (.bipush 8, 2) := by decide +kernel
theorem dX3_become_42 : decode cX3_become 42 = .ok (.invokestatic 58, 3) := by decide +kernel
theorem dX3_become_45 : decode cX3_become 45 = .ok (.aload_n 1, 1) := by decide +kernel
theorem dX3_become_46 : decode cX3_become 46 = .ok (.getfield 21, 3) := by decide +kernel
theorem dX3_become_49 : decode cX3_become 49 = .ok (.iconst 0, 1) := by decide +kernel
theorem dX3_become_50 : decode cX3_become 50 = .ok (.aload_n 0, 1) := by decide +kernel
theorem dX3_become_51 : decode cX3_become 51 = .ok (.getfield 21, 3) := by decide +kernel
theorem dX3_become_54 : decode cX3_become 54 = .ok (.iconst 0, 1) := by decide +kernel
theorem dX3_become_55 : decode cX3_become 55 = .ok (.bipush 8, 2) := by decide +kernel
theorem dX3_become_57 : decode cX3_become 57 = .ok (.invokestatic 58, 3) := by decide +kernel
theorem dX3_become_60 : decode cX3_become 60 = .ok (.aload_n 1, 1) := by decide +kernel
theorem dX3_become_61 : decode cX3_become 61 = .ok (.getfield 24, 3) := by decide +kernel
theorem dX3_become_64 : decode cX3_become 64 = .ok (.iconst 0, 1) := by decide +kernel
theorem dX3_become_65 : decode cX3_become 65 = .ok (.aload_n 0, 1) := by decide +kernel
theorem dX3_become_66 : decode cX3_become 66 = .ok (.getfield 24, 3) := by decide +kernel
theorem dX3_become_69 : decode cX3_become 69 = .ok (.iconst 0, 1) := by decide +kernel
theorem dX3_become_70 : decode cX3_become 70 = .ok (.bipush 8, 2) := by decide +kernel
theorem dX3_become_72 : decode cX3_become 72 = .ok (.invokestatic 58, 3) := by decide +kernel
theorem dX3_become_75 : decode cX3_become 75 = .ok (.aload_n 1, 1) := by decide +kernel
theorem dX3_become_76 : decode cX3_become 76 = .ok (.getfield 27, 3) := by decide +kernel
theorem dX3_become_79 : decode cX3_become 79 = .ok (.iconst 0, 1) := by decide +kernel
theorem dX3_become_80 : decode cX3_become 80 = .ok (.aload_n 0, 1) := by decide +kernel
theorem dX3_become_81 : decode cX3_become 81 = .ok (.getfield 27, 3) := by decide +kernel
theorem dX3_become_84 : decode cX3_become 84 = .ok (.iconst 0, 1) := by decide +kernel
theorem dX3_become_85 : decode cX3_become 85 = .ok (.bipush 8, 2) := by decide +kernel
theorem dX3_become_87 : decode cX3_become 87 = .ok (.invokestatic 58, 3) := by decide +kernel
theorem dX3_become_90 : decode cX3_become 90 = .ok (.aload_n 1, 1) := by decide +kernel
theorem dX3_become_91 : decode cX3_become 91 = .ok (.getfield 30, 3) := by decide +kernel
theorem dX3_become_94 : decode cX3_become 94 = .ok (.iconst 0, 1) := by decide +kernel
theorem dX3_become_95 : decode cX3_become 95 = .ok (.aload_n 0, 1) := by decide +kernel
theorem dX3_become_96 : decode cX3_become 96 = .ok (.getfield 30, 3) := by decide +kernel
theorem dX3_become_99 : decode cX3_become 99 = .ok (.iconst 0, 1) := by decide +kernel
theorem dX3_become_100 : decode cX3_become 100 = .ok (.bipush 10, 2) := by decide +kernel
theorem dX3_become_102 : decode cX3_become 102 = .ok (.invokestatic 58, 3) := by decide +kernel
theorem dX3_become_105 : decode cX3_become 105 = .ok (.aload_n 0, 1) := by decide +kernel
theorem dX3_become_106 : decode cX3_become 106 = .ok (.aload_n 1, 1) := by decide +kernel
theorem dX3_become_107 : decode cX3_become 107 = .ok (.getfield 48, 3) := by decide +kernel
theorem dX3_become_110 : decode cX3_become 110 = .ok (.putfield 48, 3) := by decide +kernel
theorem dX3_become_113 : decode cX3_become 113 = .ok (.aload_n 0, 1) := by decide +kernel
theorem dX3_become_114 : decode cX3_become 114 = .ok (.aload_n 1, 1) := by decide +kernel
theorem dX3_become_115 : decode cX3_become 115 = .ok (.getfield 52, 3) := by decide +kernel
theorem dX3_become_118 : decode cX3_become 118 = .ok (.putfield 52, 3) := by decide +kernel
theorem dX3_become_121 : decode cX3_become 121 = .ok (.aload_n 0, 1) := by decide +kernel
theorem dX3_become_122 : decode cX3_become 122 = .ok (.aload_n 1, 1) := by decide +kernel
theorem dX3_become_123 : decode cX3_become 123 = .ok (.getfield 55, 3) := by decide +kernel
theorem dX3_become_126 : decode cX3_become 126 = .ok (.putfield 55, 3) := by decide +kernel
theorem dX3_become_129 : decode cX3_become 129 = .ok (.return_, 1) := by decide +kernel
theorem dX3_addOne_0 : decode cX3_addOne 0 = .ok (.aload_n 0, 1) := by decide +kernel
theorem dX3_addOne_1 : decode cX3_addOne 1 = .ok (.getfield 48, 3) := by decide +kernel
theorem dX3_addOne_4 : decode cX3_addOne 4 = .ok (.istore_n 3, 1) := by decide +kernel
theorem dX3_addOne_5 : decode cX3_addOne 5 = .ok (.iload_n 3, 1) := by decide +kernel
theorem dX3_addOne_6 : decode cX3_addOne 6 = .ok (.bipush 8, 2) := by decide +kernel
theorem dX3_addOne_8 : decode cX3_addOne 8 = .ok (.if_icmp .lt 5, 3) := by decide +kernel
theorem dX3_addOne_11 : decode cX3_addOne 11 = .ok (.iconst (-1), 1) := by decide +kernel
theorem dX3_addOne_12 : decode cX3_addOne 12 = .ok (.ireturn, 1) := by decide +kernel
theorem dX3_addOne_13 : decode cX3_addOne 13 = .ok (.aload_n 0, 1) := by decide +kernel
theorem dX3_addOne_14 : decode cX3_addOne 14 = .ok (.getfield 15, 3) := by decide +kernel
theorem dX3_addOne_17 : decode cX3_addOne 17 = .ok (.iload_n 3, 1) := by decide +kernel
theorem dX3_addOne_18 : decode cX3_addOne 18 = .ok (.iload_n 1, 1) := by decide +kernel
theorem dX3_addOne_19 : decode cX3_addOne 19 = .ok (.iastore, 1) := by decide +kernel
theorem dX3_addOne_20 : decode cX3_addOne 20 = .ok (.aload_n 0, 1) := by decide +kernel
theorem dX3_addOne_21 : decode cX3_addOne 21 = .ok (.getfield 18, 3) := by decide +kernel
theorem dX3_addOne_24 : decode cX3_addOne 24 = .ok (.iload_n 3, 1) := by decide +kernel
theorem dX3_addOne_25 : decode cX3_addOne 25 = .ok (.iload_n 2, 1) := by decide +kernel
theorem dX3_addOne_26 : decode cX3_addOne 26 = .ok (.iastore, 1) := by decide +kernel
theorem dX3_addOne_27 : decode cX3_addOne 27 = .ok (.aload_n 0, 1) := by decide +kernel
theorem dX3_addOne_28 : decode cX3_addOne 28 = .ok (.getfield 21, 3) := by decide +kernel
theorem dX3_addOne_31 : decode cX3_addOne 31 = .ok (.iload_n 3, 1) := by decide +kernel
theorem dX3_addOne_32 : decode cX3_addOne 32 = .ok (.iconst 1, 1) := by decide +kernel
theorem dX3_addOne_33 : decode cX3_addOne 33 = .ok (.iastore, 1) := by decide +kernel
theorem dX3_addOne_34 : decode cX3_addOne 34 = .ok (.aload_n 0, 1) := by decide +kernel
theorem dX3_addOne_35 : decode cX3_addOne 35 = .ok (.getfield 24, 3) := by decide +kernel
theorem dX3_addOne_38 : decode cX3_addOne 38 = .ok (.iload_n 3, 1) := by decide +kernel
theorem dX3_addOne_39 : decode cX3_addOne 39 = .ok (.iconst (-1), 1) := by decide +kernel
theorem dX3_addOne_40 : decode cX3_addOne 40 = .ok (.iastore, 1) := by decide +kernel
theorem dX3_addOne_41 : decode cX3_addOne 41 = .ok (.aload_n 0, 1) := by decide +kernel
theorem dX3_addOne_42 : decode cX3_addOne 42 = .ok (.getfield 27, 3) := by decide +kernel
theorem dX3_addOne_45 : decode cX3_addOne 45 = .ok (.iload_n 3, 1) := by decide +kernel
theorem dX3_addOne_46 : decode cX3_addOne 46 = .ok (.iconst 0, 1) := by decide +kernel
theorem dX3_addOne_47 : decode cX3_addOne 47 = .ok (.iastore, 1) := by decide +kernel
theorem dX3_addOne_48 : decode cX3_addOne 48 = .ok (.aload_n 0, 1) := by decide +kernel
theorem dX3_addOne_49 : decode cX3_addOne 49 = .ok (.iload_n 3, 1) := by decide +kernel
theorem dX3_addOne_50 : decode cX3_addOne 50 = .ok (.iconst 1, 1) := by decide +kernel
theorem dX3_addOne_51 : decode cX3_addOne 51 = .ok (.iadd, 1) := by decide +kernel
theorem dX3_addOne_52 : decode cX3_addOne 52 = .ok (.putfield 48, 3) := by decide +kernel
theorem dX3_addOne_55 : decode cX3_addOne 55 = .ok (.iload_n 3, 1) := by decide +kernel
theorem dX3_addOne_56 : decode cX3_addOne 56 = .ok (.ireturn, 1) := by decide +kernel
set_option maxRecDepth 20000 in
theorem ggX3_mayBecome_X4_isKind : GoodIn wsX3_mayBecome wsX4_isKind := goodIn_r _ [5, 6, 7, 4, 8] (by decide +kernel) (by decide +kernel)
set_option maxRecDepth 20000 in
theorem gX3_mayBecome_X4_isKind_n64 : GoodIn wsX3_mayBecome (wsX4_isKind) := ggX3_mayBecome_X4_isKind
set_option maxRecDepth 20000 in
theorem ggX3_mayBecome_X4_isPlace : GoodIn wsX3_mayBecome wsX4_isPlace := goodIn_r _ [10] (by decide +kernel) (by decide +kernel)
set_option maxRecDepth 20000 in
theorem gX3_mayBecome_X4_isPlace_n68 : GoodIn wsX3_mayBecome (wsX4_isPlace) := ggX3_mayBecome_X4_isPlace
set_option maxRecDepth 20000 in
theorem ggX3_mayBecome_X4_isWithin : GoodIn wsX3_mayBecome wsX4_isWithin := goodIn_r _ [8] (by decide +kernel) (by decide +kernel)
set_option maxRecDepth 20000 in
theorem gX3_mayBecome_X4_isWithin_n71 : GoodIn wsX3_mayBecome (wsX4_isWithin) := ggX3_mayBecome_X4_isWithin
theorem dX3_mayBecome_0 : decode cX3_mayBecome 0 = .ok (.iload_n 2, 1) := by decide +kernel
theorem dX3_mayBecome_1 : decode cX3_mayBecome 1 = .ok (.tableswitch 86 0 4 #[35, 40, 45, 53, 78], 35) := by decide +kernel
theorem dX3_mayBecome_36 : decode cX3_mayBecome 36 = .ok (.iload_n 3, 1) := by decide +kernel
theorem dX3_mayBecome_37 : decode cX3_mayBecome 37 = .ok (.invokestatic 64, 3) := by decide +kernel
theorem dX3_mayBecome_40 : decode cX3_mayBecome 40 = .ok (.ireturn, 1) := by decide +kernel
theorem dX3_mayBecome_41 : decode cX3_mayBecome 41 = .ok (.iload_n 3, 1) := by decide +kernel
theorem dX3_mayBecome_42 : decode cX3_mayBecome 42 = .ok (.invokestatic 68, 3) := by decide +kernel
theorem dX3_mayBecome_45 : decode cX3_mayBecome 45 = .ok (.ireturn, 1) := by decide +kernel
theorem dX3_mayBecome_46 : decode cX3_mayBecome 46 = .ok (.iload_n 3, 1) := by decide +kernel
theorem dX3_mayBecome_47 : decode cX3_mayBecome 47 = .ok (.iconst 0, 1) := by decide +kernel
theorem dX3_mayBecome_48 : decode cX3_mayBecome 48 = .ok (.bipush 7, 2) := by decide +kernel
theorem dX3_mayBecome_50 : decode cX3_mayBecome 50 = .ok (.invokestatic 71, 3) := by decide +kernel
theorem dX3_mayBecome_53 : decode cX3_mayBecome 53 = .ok (.ireturn, 1) := by decide +kernel
theorem dX3_mayBecome_54 : decode cX3_mayBecome 54 = .ok (.iload_n 3, 1) := by decide +kernel
theorem dX3_mayBecome_55 : decode cX3_mayBecome 55 = .ok (.iconst (-1), 1) := by decide +kernel
theorem dX3_mayBecome_56 : decode cX3_mayBecome 56 = .ok (.aload_n 0, 1) := by decide +kernel
theorem dX3_mayBecome_57 : decode cX3_mayBecome 57 = .ok (.getfield 48, 3) := by decide +kernel
theorem dX3_mayBecome_60 : decode cX3_mayBecome 60 = .ok (.iconst 1, 1) := by decide +kernel
theorem dX3_mayBecome_61 : decode cX3_mayBecome 61 = .ok (.isub, 1) := by decide +kernel
theorem dX3_mayBecome_62 : decode cX3_mayBecome 62 = .ok (.invokestatic 71, 3) := by decide +kernel
theorem dX3_mayBecome_65 : decode cX3_mayBecome 65 = .ok (.ifCond .eq 12, 3) := by decide +kernel
theorem dX3_mayBecome_68 : decode cX3_mayBecome 68 = .ok (.iload_n 3, 1) := by decide +kernel
theorem dX3_mayBecome_69 : decode cX3_mayBecome 69 = .ok (.iload_n 1, 1) := by decide +kernel
theorem dX3_mayBecome_70 : decode cX3_mayBecome 70 = .ok (.if_icmp .eq 7, 3) := by decide +kernel
theorem dX3_mayBecome_73 : decode cX3_mayBecome 73 = .ok (.iconst 1, 1) := by decide +kernel
theorem dX3_mayBecome_74 : decode cX3_mayBecome 74 = .ok (.goto 4, 3) := by decide +kernel
theorem dX3_mayBecome_77 : decode cX3_mayBecome 77 = .ok (.iconst 0, 1) := by decide +kernel
theorem dX3_mayBecome_78 : decode cX3_mayBecome 78 = .ok (.ireturn, 1) := by decide +kernel
theorem dX3_mayBecome_79 : decode cX3_mayBecome 79 = .ok (.iload_n 3, 1) := by decide +kernel
theorem dX3_mayBecome_80 : decode cX3_mayBecome 80 = .ok (.iconst 0, 1) := by decide +kernel
theorem dX3_mayBecome_81 : decode cX3_mayBecome 81 = .ok (.ldc 75, 2) := by decide +kernel
theorem dX3_mayBecome_83 : decode cX3_mayBecome 83 = .ok (.invokestatic 71, 3) := by decide +kernel
theorem dX3_mayBecome_86 : decode cX3_mayBecome 86 = .ok (.ireturn, 1) := by decide +kernel
theorem dX3_mayBecome_87 : decode cX3_mayBecome 87 = .ok (.iconst 0, 1) := by decide +kernel
theorem dX3_mayBecome_88 : decode cX3_mayBecome 88 = .ok (.ireturn, 1) := by decide +kernel
theorem dX3_traitOf_0 : decode cX3_traitOf 0 = .ok (.iload_n 2, 1) := by decide +kernel
theorem dX3_traitOf_1 : decode cX3_traitOf 1 = .ok (.tableswitch 59 0 3 #[31, 38, 45, 52], 31) := by decide +kernel
theorem dX3_traitOf_32 : decode cX3_traitOf 32 = .ok (.aload_n 0, 1) := by decide +kernel
theorem dX3_traitOf_33 : decode cX3_traitOf 33 = .ok (.getfield 15, 3) := by decide +kernel
theorem dX3_traitOf_36 : decode cX3_traitOf 36 = .ok (.iload_n 1, 1) := by decide +kernel
theorem dX3_traitOf_37 : decode cX3_traitOf 37 = .ok (.iaload, 1) := by decide +kernel
theorem dX3_traitOf_38 : decode cX3_traitOf 38 = .ok (.ireturn, 1) := by decide +kernel
theorem dX3_traitOf_39 : decode cX3_traitOf 39 = .ok (.aload_n 0, 1) := by decide +kernel
theorem dX3_traitOf_40 : decode cX3_traitOf 40 = .ok (.getfield 18, 3) := by decide +kernel
theorem dX3_traitOf_43 : decode cX3_traitOf 43 = .ok (.iload_n 1, 1) := by decide +kernel
theorem dX3_traitOf_44 : decode cX3_traitOf 44 = .ok (.iaload, 1) := by decide +kernel
theorem dX3_traitOf_45 : decode cX3_traitOf 45 = .ok (.ireturn, 1) := by decide +kernel
theorem dX3_traitOf_46 : decode cX3_traitOf 46 = .ok (.aload_n 0, 1) := by decide +kernel
theorem dX3_traitOf_47 : decode cX3_traitOf 47 = .ok (.getfield 21, 3) := by decide +kernel
theorem dX3_traitOf_50 : decode cX3_traitOf 50 = .ok (.iload_n 1, 1) := by decide +kernel
theorem dX3_traitOf_51 : decode cX3_traitOf 51 = .ok (.iaload, 1) := by decide +kernel
theorem dX3_traitOf_52 : decode cX3_traitOf 52 = .ok (.ireturn, 1) := by decide +kernel
theorem dX3_traitOf_53 : decode cX3_traitOf 53 = .ok (.aload_n 0, 1) := by decide +kernel
theorem dX3_traitOf_54 : decode cX3_traitOf 54 = .ok (.getfield 24, 3) := by decide +kernel
theorem dX3_traitOf_57 : decode cX3_traitOf 57 = .ok (.iload_n 1, 1) := by decide +kernel
theorem dX3_traitOf_58 : decode cX3_traitOf 58 = .ok (.iaload, 1) := by decide +kernel
theorem dX3_traitOf_59 : decode cX3_traitOf 59 = .ok (.ireturn, 1) := by decide +kernel
theorem dX3_traitOf_60 : decode cX3_traitOf 60 = .ok (.aload_n 0, 1) := by decide +kernel
theorem dX3_traitOf_61 : decode cX3_traitOf 61 = .ok (.getfield 27, 3) := by decide +kernel
theorem dX3_traitOf_64 : decode cX3_traitOf 64 = .ok (.iload_n 1, 1) := by decide +kernel
theorem dX3_traitOf_65 : decode cX3_traitOf 65 = .ok (.iaload, 1) := by decide +kernel
theorem dX3_traitOf_66 : decode cX3_traitOf 66 = .ok (.ireturn, 1) := by decide +kernel
theorem dX3_setTrait_0 : decode cX3_setTrait 0 = .ok (.iload_n 2, 1) := by decide +kernel
theorem dX3_setTrait_1 : decode cX3_setTrait 1 = .ok (.tableswitch 71 0 3 #[31, 41, 51, 61], 31) := by decide +kernel
theorem dX3_setTrait_32 : decode cX3_setTrait 32 = .ok (.aload_n 0, 1) := by decide +kernel
theorem dX3_setTrait_33 : decode cX3_setTrait 33 = .ok (.getfield 15, 3) := by decide +kernel
theorem dX3_setTrait_36 : decode cX3_setTrait 36 = .ok (.iload_n 1, 1) := by decide +kernel
theorem dX3_setTrait_37 : decode cX3_setTrait 37 = .ok (.iload_n 3, 1) := by decide +kernel
theorem dX3_setTrait_38 : decode cX3_setTrait 38 = .ok (.iastore, 1) := by decide +kernel
theorem dX3_setTrait_39 : decode cX3_setTrait 39 = .ok (.goto 40, 3) := by decide +kernel
theorem dX3_setTrait_42 : decode cX3_setTrait 42 = .ok (.aload_n 0, 1) := by decide +kernel
theorem dX3_setTrait_43 : decode cX3_setTrait 43 = .ok (.getfield 18, 3) := by decide +kernel
theorem dX3_setTrait_46 : decode cX3_setTrait 46 = .ok (.iload_n 1, 1) := by decide +kernel
theorem dX3_setTrait_47 : decode cX3_setTrait 47 = .ok (.iload_n 3, 1) := by decide +kernel
theorem dX3_setTrait_48 : decode cX3_setTrait 48 = .ok (.iastore, 1) := by decide +kernel
theorem dX3_setTrait_49 : decode cX3_setTrait 49 = .ok (.goto 30, 3) := by decide +kernel
theorem dX3_setTrait_52 : decode cX3_setTrait 52 = .ok (.aload_n 0, 1) := by decide +kernel
theorem dX3_setTrait_53 : decode cX3_setTrait 53 = .ok (.getfield 21, 3) := by decide +kernel
theorem dX3_setTrait_56 : decode cX3_setTrait 56 = .ok (.iload_n 1, 1) := by decide +kernel
theorem dX3_setTrait_57 : decode cX3_setTrait 57 = .ok (.iload_n 3, 1) := by decide +kernel
theorem dX3_setTrait_58 : decode cX3_setTrait 58 = .ok (.iastore, 1) := by decide +kernel
theorem dX3_setTrait_59 : decode cX3_setTrait 59 = .ok (.goto 20, 3) := by decide +kernel
theorem dX3_setTrait_62 : decode cX3_setTrait 62 = .ok (.aload_n 0, 1) := by decide +kernel
theorem dX3_setTrait_63 : decode cX3_setTrait 63 = .ok (.getfield 24, 3) := by decide +kernel
theorem dX3_setTrait_66 : decode cX3_setTrait 66 = .ok (.iload_n 1, 1) := by decide +kernel
theorem dX3_setTrait_67 : decode cX3_setTrait 67 = .ok (.iload_n 3, 1) := by decide +kernel
theorem dX3_setTrait_68 : decode cX3_setTrait 68 = .ok (.iastore, 1) := by decide +kernel
theorem dX3_setTrait_69 : decode cX3_setTrait 69 = .ok (.goto 10, 3) := by decide +kernel
theorem dX3_setTrait_72 : decode cX3_setTrait 72 = .ok (.aload_n 0, 1) := by decide +kernel
theorem dX3_setTrait_73 : decode cX3_setTrait 73 = .ok (.getfield 27, 3) := by decide +kernel
theorem dX3_setTrait_76 : decode cX3_setTrait 76 = .ok (.iload_n 1, 1) := by decide +kernel
theorem dX3_setTrait_77 : decode cX3_setTrait 77 = .ok (.iload_n 3, 1) := by decide +kernel
theorem dX3_setTrait_78 : decode cX3_setTrait 78 = .ok (.iastore, 1) := by decide +kernel
theorem dX3_setTrait_79 : decode cX3_setTrait 79 = .ok (.return_, 1) := by decide +kernel
set_option maxRecDepth 20000 in
theorem ggX3_settle_J7_fill_53178 : GoodIn wsX3_settle wsJ7_fill_53178 := goodIn_r _ [9] (by decide +kernel) (by decide +kernel)
set_option maxRecDepth 20000 in
theorem gX3_settle_J7_fill_53178 : GoodIn wsX3_settle (va_wsS RX3 42 yJ7_fill_53178 wsJ7_fill_53178) := goodIn_app (goodIn_of _ (by decide +kernel)) ggX3_settle_J7_fill_53178
set_option maxRecDepth 20000 in
theorem ggX3_settle_X4_isPlace : GoodIn wsX3_settle wsX4_isPlace := goodIn_r _ [12] (by decide +kernel) (by decide +kernel)
set_option maxRecDepth 20000 in
theorem gX3_settle_X4_isPlace_n68 : GoodIn wsX3_settle (wsX4_isPlace) := ggX3_settle_X4_isPlace
set_option maxRecDepth 20000 in
theorem ggX3_settle_X3_bestPlaceFor : GoodIn wsX3_settle wsX3_bestPlaceFor := goodIn_r _ [17, 4, 18, 19, 20, 21, 22, 23, 24, 25, 10, 11, 12, 26, 27, 28, 16, 29, 1, 30, 31, 3, 32, 33, 34, 35, 36, 37, 38, 39, 40, 41, 42, 43, 44, 45] (by decide +kernel) (by decide +kernel)
set_option maxRecDepth 20000 in
theorem gX3_settle_X3_bestPlaceFor : GoodIn wsX3_settle (wsV RX3 76 RX3 yX3_bestPlaceFor wsX3_bestPlaceFor) := goodIn_app (goodIn_of _ (by decide +kernel)) ggX3_settle_X3_bestPlaceFor
theorem dX3_settle_0 : decode cX3_settle 0 = .ok (.aload_n 0, 1) := by decide +kernel
theorem dX3_settle_1 : decode cX3_settle 1 = .ok (.getfield 33, 3) := by decide +kernel
theorem dX3_settle_4 : decode cX3_settle 4 = .ok (.iconst 0, 1) := by decide +kernel
theorem dX3_settle_5 : decode cX3_settle 5 = .ok (.invokestatic 42, 3) := by decide +kernel
theorem dX3_settle_8 : decode cX3_settle 8 = .ok (.aload_n 0, 1) := by decide +kernel
theorem dX3_settle_9 : decode cX3_settle 9 = .ok (.getfield 39, 3) := by decide +kernel
theorem dX3_settle_12 : decode cX3_settle 12 = .ok (.iconst 0, 1) := by decide +kernel
theorem dX3_settle_13 : decode cX3_settle 13 = .ok (.invokestatic 42, 3) := by decide +kernel
theorem dX3_settle_16 : decode cX3_settle 16 = .ok (.iconst 0, 1) := by decide +kernel
theorem dX3_settle_17 : decode cX3_settle 17 = .ok (.istore_n 1, 1) := by decide +kernel
theorem dX3_settle_18 : decode cX3_settle 18 = .ok (.iload_n 1, 1) := by decide +kernel
theorem dX3_settle_19 : decode cX3_settle 19 = .ok (.aload_n 0, 1) := by decide +kernel
theorem dX3_settle_20 : decode cX3_settle 20 = .ok (.getfield 48, 3) := by decide +kernel
theorem dX3_settle_23 : decode cX3_settle 23 = .ok (.if_icmp .ge 36, 3) := by decide +kernel
theorem dX3_settle_26 : decode cX3_settle 26 = .ok (.aload_n 0, 1) := by decide +kernel
theorem dX3_settle_27 : decode cX3_settle 27 = .ok (.getfield 18, 3) := by decide +kernel
theorem dX3_settle_30 : decode cX3_settle 30 = .ok (.iload_n 1, 1) := by decide +kernel
theorem dX3_settle_31 : decode cX3_settle 31 = .ok (.iaload, 1) := by decide +kernel
theorem dX3_settle_32 : decode cX3_settle 32 = .ok (.invokestatic 68, 3) := by decide +kernel
theorem dX3_settle_35 : decode cX3_settle 35 = .ok (.ifCond .eq 18, 3) := by decide +kernel
theorem dX3_settle_38 : decode cX3_settle 38 = .ok (.aload_n 0, 1) := by decide +kernel
theorem dX3_settle_39 : decode cX3_settle 39 = .ok (.getfield 33, 3) := by decide +kernel
theorem dX3_settle_42 : decode cX3_settle 42 = .ok (.aload_n 0, 1) := by decide +kernel
theorem dX3_settle_43 : decode cX3_settle 43 = .ok (.getfield 18, 3) := by decide +kernel
theorem dX3_settle_46 : decode cX3_settle 46 = .ok (.iload_n 1, 1) := by decide +kernel
theorem dX3_settle_47 : decode cX3_settle 47 = .ok (.iaload, 1) := by decide +kernel
theorem dX3_settle_48 : decode cX3_settle 48 = .ok (.dup2, 1) := by decide +kernel
theorem dX3_settle_49 : decode cX3_settle 49 = .ok (.iaload, 1) := by decide +kernel
theorem dX3_settle_50 : decode cX3_settle 50 = .ok (.iconst 1, 1) := by decide +kernel
theorem dX3_settle_51 : decode cX3_settle 51 = .ok (.iadd, 1) := by decide +kernel
theorem dX3_settle_52 : decode cX3_settle 52 = .ok (.iastore, 1) := by decide +kernel
theorem dX3_settle_53 : decode cX3_settle 53 = .ok (.iinc 1 1, 3) := by decide +kernel
theorem dX3_settle_56 : decode cX3_settle 56 = .ok (.goto (-38), 3) := by decide +kernel
theorem dX3_settle_59 : decode cX3_settle 59 = .ok (.iconst 0, 1) := by decide +kernel
theorem dX3_settle_60 : decode cX3_settle 60 = .ok (.istore_n 1, 1) := by decide +kernel
theorem dX3_settle_61 : decode cX3_settle 61 = .ok (.iload_n 1, 1) := by decide +kernel
theorem dX3_settle_62 : decode cX3_settle 62 = .ok (.aload_n 0, 1) := by decide +kernel
theorem dX3_settle_63 : decode cX3_settle 63 = .ok (.getfield 48, 3) := by decide +kernel
theorem dX3_settle_66 : decode cX3_settle 66 = .ok (.if_icmp .ge 39, 3) := by decide +kernel
theorem dX3_settle_69 : decode cX3_settle 69 = .ok (.aload_n 0, 1) := by decide +kernel
theorem dX3_settle_70 : decode cX3_settle 70 = .ok (.iload_n 1, 1) := by decide +kernel
theorem dX3_settle_71 : decode cX3_settle 71 = .ok (.invokevirtual 76, 3) := by decide +kernel
theorem dX3_settle_74 : decode cX3_settle 74 = .ok (.istore_n 2, 1) := by decide +kernel
theorem dX3_settle_75 : decode cX3_settle 75 = .ok (.aload_n 0, 1) := by decide +kernel
theorem dX3_settle_76 : decode cX3_settle 76 = .ok (.getfield 36, 3) := by decide +kernel
theorem dX3_settle_79 : decode cX3_settle 79 = .ok (.iload_n 1, 1) := by decide +kernel
theorem dX3_settle_80 : decode cX3_settle 80 = .ok (.iload_n 2, 1) := by decide +kernel
theorem dX3_settle_81 : decode cX3_settle 81 = .ok (.iastore, 1) := by decide +kernel
theorem dX3_settle_82 : decode cX3_settle 82 = .ok (.iload_n 2, 1) := by decide +kernel
theorem dX3_settle_83 : decode cX3_settle 83 = .ok (.invokestatic 68, 3) := by decide +kernel
theorem dX3_settle_86 : decode cX3_settle 86 = .ok (.ifCond .eq 13, 3) := by decide +kernel
theorem dX3_settle_89 : decode cX3_settle 89 = .ok (.aload_n 0, 1) := by decide +kernel
theorem dX3_settle_90 : decode cX3_settle 90 = .ok (.getfield 39, 3) := by decide +kernel
theorem dX3_settle_93 : decode cX3_settle 93 = .ok (.iload_n 2, 1) := by decide +kernel
theorem dX3_settle_94 : decode cX3_settle 94 = .ok (.dup2, 1) := by decide +kernel
theorem dX3_settle_95 : decode cX3_settle 95 = .ok (.iaload, 1) := by decide +kernel
theorem dX3_settle_96 : decode cX3_settle 96 = .ok (.iconst 1, 1) := by decide +kernel
theorem dX3_settle_97 : decode cX3_settle 97 = .ok (.iadd, 1) := by decide +kernel
theorem dX3_settle_98 : decode cX3_settle 98 = .ok (.iastore, 1) := by decide +kernel
theorem dX3_settle_99 : decode cX3_settle 99 = .ok (.iinc 1 1, 3) := by decide +kernel
theorem dX3_settle_102 : decode cX3_settle 102 = .ok (.goto (-41), 3) := by decide +kernel
theorem dX3_settle_105 : decode cX3_settle 105 = .ok (.return_, 1) := by decide +kernel
set_option maxRecDepth 20000 in
theorem ggX3_bestPlaceFor_X4_isPlace : GoodIn wsX3_bestPlaceFor wsX4_isPlace := goodIn_r _ [12] (by decide +kernel) (by decide +kernel)
set_option maxRecDepth 20000 in
theorem gX3_bestPlaceFor_X4_isPlace_n68 : GoodIn wsX3_bestPlaceFor (wsX4_isPlace) := ggX3_bestPlaceFor_X4_isPlace
set_option maxRecDepth 20000 in
theorem ggX3_bestPlaceFor_X3_wishAt : GoodIn wsX3_bestPlaceFor wsX3_wishAt := goodIn_r _ [17, 1, 18, 19, 20, 21, 22, 23, 24, 25, 26, 27, 28, 29, 30, 31, 32, 33, 34, 35] (by decide +kernel) (by decide +kernel)
set_option maxRecDepth 20000 in
theorem gX3_bestPlaceFor_X3_wishAt : GoodIn wsX3_bestPlaceFor (wsV RX3 80 RX3 yX3_wishAt wsX3_wishAt) := goodIn_app (goodIn_of _ (by decide +kernel)) ggX3_bestPlaceFor_X3_wishAt
theorem dX3_bestPlaceFor_0 : decode cX3_bestPlaceFor 0 = .ok (.aload_n 0, 1) := by decide +kernel
theorem dX3_bestPlaceFor_1 : decode cX3_bestPlaceFor 1 = .ok (.getfield 18, 3) := by decide +kernel
theorem dX3_bestPlaceFor_4 : decode cX3_bestPlaceFor 4 = .ok (.iload_n 1, 1) := by decide +kernel
theorem dX3_bestPlaceFor_5 : decode cX3_bestPlaceFor 5 = .ok (.iaload, 1) := by decide +kernel
theorem dX3_bestPlaceFor_6 : decode cX3_bestPlaceFor 6 = .ok (.istore_n 2, 1) := by decide +kernel
theorem dX3_bestPlaceFor_7 : decode cX3_bestPlaceFor 7 = .ok (.iload_n 2, 1) := by decide +kernel
theorem dX3_bestPlaceFor_8 : decode cX3_bestPlaceFor 8 = .ok (.invokestatic 68, 3) := by decide +kernel
theorem dX3_bestPlaceFor_11 : decode cX3_bestPlaceFor 11 = .ok (.ifCond .ne 5, 3) := by decide +kernel
theorem dX3_bestPlaceFor_14 : decode cX3_bestPlaceFor 14 = .ok (.iconst (-1), 1) := by decide +kernel
theorem dX3_bestPlaceFor_15 : decode cX3_bestPlaceFor 15 = .ok (.ireturn, 1) := by decide +kernel
theorem dX3_bestPlaceFor_16 : decode cX3_bestPlaceFor 16 = .ok (.iload_n 2, 1) := by decide +kernel
theorem dX3_bestPlaceFor_17 : decode cX3_bestPlaceFor 17 = .ok (.istore_n 3, 1) := by decide +kernel
theorem dX3_bestPlaceFor_18 : decode cX3_bestPlaceFor 18 = .ok (.aload_n 0, 1) := by decide +kernel
theorem dX3_bestPlaceFor_19 : decode cX3_bestPlaceFor 19 = .ok (.iload_n 1, 1) := by decide +kernel
theorem dX3_bestPlaceFor_20 : decode cX3_bestPlaceFor 20 = .ok (.iload_n 2, 1) := by decide +kernel
theorem dX3_bestPlaceFor_21 : decode cX3_bestPlaceFor 21 = .ok (.invokevirtual 80, 3) := by decide +kernel
theorem dX3_bestPlaceFor_24 : decode cX3_bestPlaceFor 24 = .ok (.istore 4, 2) := by decide +kernel
theorem dX3_bestPlaceFor_26 : decode cX3_bestPlaceFor 26 = .ok (.bipush 7, 2) := by decide +kernel
theorem dX3_bestPlaceFor_28 : decode cX3_bestPlaceFor 28 = .ok (.iload_n 2, 1) := by decide +kernel
theorem dX3_bestPlaceFor_29 : decode cX3_bestPlaceFor 29 = .ok (.aload_n 0, 1) := by decide +kernel
theorem dX3_bestPlaceFor_30 : decode cX3_bestPlaceFor 30 = .ok (.getfield 21, 3) := by decide +kernel
theorem dX3_bestPlaceFor_33 : decode cX3_bestPlaceFor 33 = .ok (.iload_n 1, 1) := by decide +kernel
theorem dX3_bestPlaceFor_34 : decode cX3_bestPlaceFor 34 = .ok (.iaload, 1) := by decide +kernel
theorem dX3_bestPlaceFor_35 : decode cX3_bestPlaceFor 35 = .ok (.iadd, 1) := by decide +kernel
theorem dX3_bestPlaceFor_36 : decode cX3_bestPlaceFor 36 = .ok (.invokestatic 84, 3) := by decide +kernel
theorem dX3_bestPlaceFor_39 : decode cX3_bestPlaceFor 39 = .ok (.istore 5, 2) := by decide +kernel
theorem dX3_bestPlaceFor_41 : decode cX3_bestPlaceFor 41 = .ok (.iconst 0, 1) := by decide +kernel
theorem dX3_bestPlaceFor_42 : decode cX3_bestPlaceFor 42 = .ok (.iload_n 2, 1) := by decide +kernel
theorem dX3_bestPlaceFor_43 : decode cX3_bestPlaceFor 43 = .ok (.aload_n 0, 1) := by decide +kernel
theorem dX3_bestPlaceFor_44 : decode cX3_bestPlaceFor 44 = .ok (.getfield 21, 3) := by decide +kernel
theorem dX3_bestPlaceFor_47 : decode cX3_bestPlaceFor 47 = .ok (.iload_n 1, 1) := by decide +kernel
theorem dX3_bestPlaceFor_48 : decode cX3_bestPlaceFor 48 = .ok (.iaload, 1) := by decide +kernel
theorem dX3_bestPlaceFor_49 : decode cX3_bestPlaceFor 49 = .ok (.isub, 1) := by decide +kernel
theorem dX3_bestPlaceFor_50 : decode cX3_bestPlaceFor 50 = .ok (.invokestatic 89, 3) := by decide +kernel
theorem dX3_bestPlaceFor_53 : decode cX3_bestPlaceFor 53 = .ok (.istore 6, 2) := by decide +kernel
theorem dX3_bestPlaceFor_55 : decode cX3_bestPlaceFor 55 = .ok (.iload 6, 2) := by decide +kernel
theorem dX3_bestPlaceFor_57 : decode cX3_bestPlaceFor 57 = .ok (.iload 5, 2) := by decide +kernel
theorem dX3_bestPlaceFor_59 : decode cX3_bestPlaceFor 59 = .ok (.if_icmp .gt 32, 3) := by decide +kernel
theorem dX3_bestPlaceFor_62 : decode cX3_bestPlaceFor 62 = .ok (.aload_n 0, 1) := by decide +kernel
theorem dX3_bestPlaceFor_63 : decode cX3_bestPlaceFor 63 = .ok (.iload_n 1, 1) := by decide +kernel
theorem dX3_bestPlaceFor_64 : decode cX3_bestPlaceFor 64 = .ok (.iload 6, 2) := by decide +kernel
theorem dX3_bestPlaceFor_66 : decode cX3_bestPlaceFor 66 = .ok (.invokevirtual 80, 3) := by decide +kernel
theorem dX3_bestPlaceFor_69 : decode cX3_bestPlaceFor 69 = .ok (.istore 7, 2) := by decide +kernel
theorem dX3_bestPlaceFor_71 : decode cX3_bestPlaceFor 71 = .ok (.iload 7, 2) := by decide +kernel
theorem dX3_bestPlaceFor_73 : decode cX3_bestPlaceFor 73 = .ok (.iload 4, 2) := by decide +kernel
theorem dX3_bestPlaceFor_75 : decode cX3_bestPlaceFor 75 = .ok (.if_icmp .le 10, 3) := by decide +kernel
theorem dX3_bestPlaceFor_78 : decode cX3_bestPlaceFor 78 = .ok (.iload 6, 2) := by decide +kernel
theorem dX3_bestPlaceFor_80 : decode cX3_bestPlaceFor 80 = .ok (.istore_n 3, 1) := by decide +kernel
theorem dX3_bestPlaceFor_81 : decode cX3_bestPlaceFor 81 = .ok (.iload 7, 2) := by decide +kernel
theorem dX3_bestPlaceFor_83 : decode cX3_bestPlaceFor 83 = .ok (.istore 4, 2) := by decide +kernel
theorem dX3_bestPlaceFor_85 : decode cX3_bestPlaceFor 85 = .ok (.iinc 6 1, 3) := by decide +kernel
theorem dX3_bestPlaceFor_88 : decode cX3_bestPlaceFor 88 = .ok (.goto (-33), 3) := by decide +kernel
theorem dX3_bestPlaceFor_91 : decode cX3_bestPlaceFor 91 = .ok (.iload_n 3, 1) := by decide +kernel
theorem dX3_bestPlaceFor_92 : decode cX3_bestPlaceFor 92 = .ok (.ireturn, 1) := by decide +kernel
theorem dX3_canSee_0 : decode cX3_canSee 0 = .ok (.aload_n 0, 1) := by decide +kernel
theorem dX3_canSee_1 : decode cX3_canSee 1 = .ok (.getfield 18, 3) := by decide +kernel
theorem dX3_canSee_4 : decode cX3_canSee 4 = .ok (.iload_n 1, 1) := by decide +kernel
theorem dX3_canSee_5 : decode cX3_canSee 5 = .ok (.iaload, 1) := by decide +kernel
theorem dX3_canSee_6 : decode cX3_canSee 6 = .ok (.iload_n 2, 1) := by decide +kernel
theorem dX3_canSee_7 : decode cX3_canSee 7 = .ok (.isub, 1) := by decide +kernel
theorem dX3_canSee_8 : decode cX3_canSee 8 = .ok (.invokestatic 92, 3) := by decide +kernel
theorem dX3_canSee_11 : decode cX3_canSee 11 = .ok (.aload_n 0, 1) := by decide +kernel
theorem dX3_canSee_12 : decode cX3_canSee 12 = .ok (.getfield 21, 3) := by decide +kernel
theorem dX3_canSee_15 : decode cX3_canSee 15 = .ok (.iload_n 1, 1) := by decide +kernel
theorem dX3_canSee_16 : decode cX3_canSee 16 = .ok (.iaload, 1) := by decide +kernel
theorem dX3_canSee_17 : decode cX3_canSee 17 = .ok (.if_icmp .gt 7, 3) := by decide +kernel
theorem dX3_canSee_20 : decode cX3_canSee 20 = .ok (.iconst 1, 1) := by decide +kernel
theorem dX3_canSee_21 : decode cX3_canSee 21 = .ok (.goto 4, 3) := by decide +kernel
theorem dX3_canSee_24 : decode cX3_canSee 24 = .ok (.iconst 0, 1) := by decide +kernel
theorem dX3_canSee_25 : decode cX3_canSee 25 = .ok (.ireturn, 1) := by decide +kernel
theorem dX3_seenBy_0 : decode cX3_seenBy 0 = .ok (.aload_n 0, 1) := by decide +kernel
theorem dX3_seenBy_1 : decode cX3_seenBy 1 = .ok (.getfield 33, 3) := by decide +kernel
theorem dX3_seenBy_4 : decode cX3_seenBy 4 = .ok (.iload_n 2, 1) := by decide +kernel
theorem dX3_seenBy_5 : decode cX3_seenBy 5 = .ok (.iaload, 1) := by decide +kernel
theorem dX3_seenBy_6 : decode cX3_seenBy 6 = .ok (.aload_n 0, 1) := by decide +kernel
theorem dX3_seenBy_7 : decode cX3_seenBy 7 = .ok (.getfield 18, 3) := by decide +kernel
theorem dX3_seenBy_10 : decode cX3_seenBy 10 = .ok (.iload_n 1, 1) := by decide +kernel
theorem dX3_seenBy_11 : decode cX3_seenBy 11 = .ok (.iaload, 1) := by decide +kernel
theorem dX3_seenBy_12 : decode cX3_seenBy 12 = .ok (.iload_n 2, 1) := by decide +kernel
theorem dX3_seenBy_13 : decode cX3_seenBy 13 = .ok (.if_icmp .ne 7, 3) := by decide +kernel
theorem dX3_seenBy_16 : decode cX3_seenBy 16 = .ok (.iconst 1, 1) := by decide +kernel
theorem dX3_seenBy_17 : decode cX3_seenBy 17 = .ok (.goto 4, 3) := by decide +kernel
theorem dX3_seenBy_20 : decode cX3_seenBy 20 = .ok (.iconst 0, 1) := by decide +kernel
theorem dX3_seenBy_21 : decode cX3_seenBy 21 = .ok (.isub, 1) := by decide +kernel
theorem dX3_seenBy_22 : decode cX3_seenBy 22 = .ok (.ireturn, 1) := by decide +kernel
theorem dX3_wishAt_0 : decode cX3_wishAt 0 = .ok (.aload_n 0, 1) := by decide +kernel
theorem dX3_wishAt_1 : decode cX3_wishAt 1 = .ok (.getfield 18, 3) := by decide +kernel
theorem dX3_wishAt_4 : decode cX3_wishAt 4 = .ok (.iload_n 1, 1) := by decide +kernel
theorem dX3_wishAt_5 : decode cX3_wishAt 5 = .ok (.iaload, 1) := by decide +kernel
theorem dX3_wishAt_6 : decode cX3_wishAt 6 = .ok (.iload_n 2, 1) := by decide +kernel
theorem dX3_wishAt_7 : decode cX3_wishAt 7 = .ok (.if_icmp .ne 7, 3) := by decide +kernel
theorem dX3_wishAt_10 : decode cX3_wishAt 10 = .ok (.iconst 1, 1) := by decide +kernel
theorem dX3_wishAt_11 : decode cX3_wishAt 11 = .ok (.goto 4, 3) := by decide +kernel
theorem dX3_wishAt_14 : decode cX3_wishAt 14 = .ok (.iconst 0, 1) := by decide +kernel
theorem dX3_wishAt_15 : decode cX3_wishAt 15 = .ok (.istore_n 3, 1) := by decide +kernel
theorem dX3_wishAt_16 : decode cX3_wishAt 16 = .ok (.aload_n 0, 1) := by decide +kernel
theorem dX3_wishAt_17 : decode cX3_wishAt 17 = .ok (.getfield 33, 3) := by decide +kernel
theorem dX3_wishAt_20 : decode cX3_wishAt 20 = .ok (.iload_n 2, 1) := by decide +kernel
theorem dX3_wishAt_21 : decode cX3_wishAt 21 = .ok (.iaload, 1) := by decide +kernel
theorem dX3_wishAt_22 : decode cX3_wishAt 22 = .ok (.iload_n 3, 1) := by decide +kernel
theorem dX3_wishAt_23 : decode cX3_wishAt 23 = .ok (.ifCond .eq 7, 3) := by decide +kernel
theorem dX3_wishAt_26 : decode cX3_wishAt 26 = .ok (.iconst 1, 1) := by decide +kernel
theorem dX3_wishAt_27 : decode cX3_wishAt 27 = .ok (.goto 4, 3) := by decide +kernel
theorem dX3_wishAt_30 : decode cX3_wishAt 30 = .ok (.iconst 0, 1) := by decide +kernel
theorem dX3_wishAt_31 : decode cX3_wishAt 31 = .ok (.isub, 1) := by decide +kernel
theorem dX3_wishAt_32 : decode cX3_wishAt 32 = .ok (.istore 4, 2) := by decide +kernel
theorem dX3_wishAt_34 : decode cX3_wishAt 34 = .ok (.iload 4, 2) := by decide +kernel
theorem dX3_wishAt_36 : decode cX3_wishAt 36 = .ok (.ifCond .lt 17, 3) := by decide +kernel
theorem dX3_wishAt_39 : decode cX3_wishAt 39 = .ok (.aload_n 0, 1) := by decide +kernel
theorem dX3_wishAt_40 : decode cX3_wishAt 40 = .ok (.getfield 9, 3) := by decide +kernel
theorem dX3_wishAt_43 : decode cX3_wishAt 43 = .ok (.iload_n 2, 1) := by decide +kernel
theorem dX3_wishAt_44 : decode cX3_wishAt 44 = .ok (.iaload, 1) := by decide +kernel
theorem dX3_wishAt_45 : decode cX3_wishAt 45 = .ok (.iload 4, 2) := by decide +kernel
theorem dX3_wishAt_47 : decode cX3_wishAt 47 = .ok (.iconst 1, 1) := by decide +kernel
theorem dX3_wishAt_48 : decode cX3_wishAt 48 = .ok (.iadd, 1) := by decide +kernel
theorem dX3_wishAt_49 : decode cX3_wishAt 49 = .ok (.idiv, 1) := by decide +kernel
theorem dX3_wishAt_50 : decode cX3_wishAt 50 = .ok (.goto 4, 3) := by decide +kernel
theorem dX3_wishAt_53 : decode cX3_wishAt 53 = .ok (.iconst 0, 1) := by decide +kernel
theorem dX3_wishAt_54 : decode cX3_wishAt 54 = .ok (.istore 5, 2) := by decide +kernel
theorem dX3_wishAt_56 : decode cX3_wishAt 56 = .ok (.iload 4, 2) := by decide +kernel
theorem dX3_wishAt_58 : decode cX3_wishAt 58 = .ok (.ifCond .ne 12, 3) := by decide +kernel
theorem dX3_wishAt_61 : decode cX3_wishAt 61 = .ok (.aload_n 0, 1) := by decide +kernel
theorem dX3_wishAt_62 : decode cX3_wishAt 62 = .ok (.getfield 9, 3) := by decide +kernel
theorem dX3_wishAt_65 : decode cX3_wishAt 65 = .ok (.iload_n 2, 1) := by decide +kernel
theorem dX3_wishAt_66 : decode cX3_wishAt 66 = .ok (.iaload, 1) := by decide +kernel
theorem dX3_wishAt_67 : decode cX3_wishAt 67 = .ok (.goto 4, 3) := by decide +kernel
theorem dX3_wishAt_70 : decode cX3_wishAt 70 = .ok (.iconst 0, 1) := by decide +kernel
theorem dX3_wishAt_71 : decode cX3_wishAt 71 = .ok (.istore 6, 2) := by decide +kernel
theorem dX3_wishAt_73 : decode cX3_wishAt 73 = .ok (.aload_n 0, 1) := by decide +kernel
theorem dX3_wishAt_74 : decode cX3_wishAt 74 = .ok (.getfield 24, 3) := by decide +kernel
theorem dX3_wishAt_77 : decode cX3_wishAt 77 = .ok (.iload_n 1, 1) := by decide +kernel
theorem dX3_wishAt_78 : decode cX3_wishAt 78 = .ok (.iaload, 1) := by decide +kernel
theorem dX3_wishAt_79 : decode cX3_wishAt 79 = .ok (.istore 7, 2) := by decide +kernel
theorem dX3_wishAt_81 : decode cX3_wishAt 81 = .ok (.iload 7, 2) := by decide +kernel
theorem dX3_wishAt_83 : decode cX3_wishAt 83 = .ok (.ifCond .lt 28, 3) := by decide +kernel
theorem dX3_wishAt_86 : decode cX3_wishAt 86 = .ok (.iload 7, 2) := by decide +kernel
theorem dX3_wishAt_88 : decode cX3_wishAt 88 = .ok (.aload_n 0, 1) := by decide +kernel
theorem dX3_wishAt_89 : decode cX3_wishAt 89 = .ok (.getfield 48, 3) := by decide +kernel
theorem dX3_wishAt_92 : decode cX3_wishAt 92 = .ok (.if_icmp .ge 19, 3) := by decide +kernel
theorem dX3_wishAt_95 : decode cX3_wishAt 95 = .ok (.aload_n 0, 1) := by decide +kernel
theorem dX3_wishAt_96 : decode cX3_wishAt 96 = .ok (.getfield 18, 3) := by decide +kernel
theorem dX3_wishAt_99 : decode cX3_wishAt 99 = .ok (.iload 7, 2) := by decide +kernel
theorem dX3_wishAt_101 : decode cX3_wishAt 101 = .ok (.iaload, 1) := by decide +kernel
theorem dX3_wishAt_102 : decode cX3_wishAt 102 = .ok (.iload_n 2, 1) := by decide +kernel
theorem dX3_wishAt_103 : decode cX3_wishAt 103 = .ok (.if_icmp .ne 8, 3) := by decide +kernel
theorem dX3_wishAt_106 : decode cX3_wishAt 106 = .ok (.bipush 100, 2) := by decide +kernel
theorem dX3_wishAt_108 : decode cX3_wishAt 108 = .ok (.goto 4, 3) := by decide +kernel
theorem dX3_wishAt_111 : decode cX3_wishAt 111 = .ok (.iconst 0, 1) := by decide +kernel
theorem dX3_wishAt_112 : decode cX3_wishAt 112 = .ok (.istore 8, 2) := by decide +kernel
theorem dX3_wishAt_114 : decode cX3_wishAt 114 = .ok (.aload_n 0, 1) := by decide +kernel
theorem dX3_wishAt_115 : decode cX3_wishAt 115 = .ok (.getfield 15, 3) := by decide +kernel
theorem dX3_wishAt_118 : decode cX3_wishAt 118 = .ok (.iload_n 1, 1) := by decide +kernel
theorem dX3_wishAt_119 : decode cX3_wishAt 119 = .ok (.iaload, 1) := by decide +kernel
theorem dX3_wishAt_120 : decode cX3_wishAt 120 = .ok (.tableswitch 98 1 6 #[40, 43, 49, 60, 77, 87], 40) := by decide +kernel
theorem dX3_wishAt_160 : decode cX3_wishAt 160 = .ok (.iload 6, 2) := by decide +kernel
theorem dX3_wishAt_162 : decode cX3_wishAt 162 = .ok (.ireturn, 1) := by decide +kernel
theorem dX3_wishAt_163 : decode cX3_wishAt 163 = .ok (.iload 5, 2) := by decide +kernel
theorem dX3_wishAt_165 : decode cX3_wishAt 165 = .ok (.iload 8, 2) := by decide +kernel
theorem dX3_wishAt_167 : decode cX3_wishAt 167 = .ok (.iadd, 1) := by decide +kernel
theorem dX3_wishAt_168 : decode cX3_wishAt 168 = .ok (.ireturn, 1) := by decide +kernel
theorem dX3_wishAt_169 : decode cX3_wishAt 169 = .ok (.iload 5, 2) := by decide +kernel
theorem dX3_wishAt_171 : decode cX3_wishAt 171 = .ok (.iload 8, 2) := by decide +kernel
theorem dX3_wishAt_173 : decode cX3_wishAt 173 = .ok (.iadd, 1) := by decide +kernel
theorem dX3_wishAt_174 : decode cX3_wishAt 174 = .ok (.iconst 5, 1) := by decide +kernel
theorem dX3_wishAt_175 : decode cX3_wishAt 175 = .ok (.iload 4, 2) := by decide +kernel
theorem dX3_wishAt_177 : decode cX3_wishAt 177 = .ok (.imul, 1) := by decide +kernel
theorem dX3_wishAt_178 : decode cX3_wishAt 178 = .ok (.isub, 1) := by decide +kernel
theorem dX3_wishAt_179 : decode cX3_wishAt 179 = .ok (.ireturn, 1) := by decide +kernel
theorem dX3_wishAt_180 : decode cX3_wishAt 180 = .ok (.iload 5, 2) := by decide +kernel
theorem dX3_wishAt_182 : decode cX3_wishAt 182 = .ok (.iload 8, 2) := by decide +kernel
theorem dX3_wishAt_184 : decode cX3_wishAt 184 = .ok (.iadd, 1) := by decide +kernel
theorem dX3_wishAt_185 : decode cX3_wishAt 185 = .ok (.iconst 5, 1) := by decide +kernel
theorem dX3_wishAt_186 : decode cX3_wishAt 186 = .ok (.iload 4, 2) := by decide +kernel
theorem dX3_wishAt_188 : decode cX3_wishAt 188 = .ok (.imul, 1) := by decide +kernel
theorem dX3_wishAt_189 : decode cX3_wishAt 189 = .ok (.isub, 1) := by decide +kernel
theorem dX3_wishAt_190 : decode cX3_wishAt 190 = .ok (.bipush 7, 2) := by decide +kernel
theorem dX3_wishAt_192 : decode cX3_wishAt 192 = .ok (.iload 4, 2) := by decide +kernel
theorem dX3_wishAt_194 : decode cX3_wishAt 194 = .ok (.imul, 1) := by decide +kernel
theorem dX3_wishAt_195 : decode cX3_wishAt 195 = .ok (.iadd, 1) := by decide +kernel
theorem dX3_wishAt_196 : decode cX3_wishAt 196 = .ok (.ireturn, 1) := by decide +kernel
theorem dX3_wishAt_197 : decode cX3_wishAt 197 = .ok (.iload_n 3, 1) := by decide +kernel
theorem dX3_wishAt_198 : decode cX3_wishAt 198 = .ok (.ifCond .eq 7, 3) := by decide +kernel
theorem dX3_wishAt_201 : decode cX3_wishAt 201 = .ok (.iconst 1, 1) := by decide +kernel
theorem dX3_wishAt_202 : decode cX3_wishAt 202 = .ok (.goto 4, 3) := by decide +kernel
theorem dX3_wishAt_205 : decode cX3_wishAt 205 = .ok (.iconst 0, 1) := by decide +kernel
theorem dX3_wishAt_206 : decode cX3_wishAt 206 = .ok (.ireturn, 1) := by decide +kernel
theorem dX3_wishAt_207 : decode cX3_wishAt 207 = .ok (.iload_n 3, 1) := by decide +kernel
theorem dX3_wishAt_208 : decode cX3_wishAt 208 = .ok (.ifCond .eq 8, 3) := by decide +kernel
theorem dX3_wishAt_211 : decode cX3_wishAt 211 = .ok (.iload 6, 2) := by decide +kernel
theorem dX3_wishAt_213 : decode cX3_wishAt 213 = .ok (.goto 4, 3) := by decide +kernel
theorem dX3_wishAt_216 : decode cX3_wishAt 216 = .ok (.iconst 0, 1) := by decide +kernel
theorem dX3_wishAt_217 : decode cX3_wishAt 217 = .ok (.ireturn, 1) := by decide +kernel
theorem dX3_wishAt_218 : decode cX3_wishAt 218 = .ok (.iload 5, 2) := by decide +kernel
theorem dX3_wishAt_220 : decode cX3_wishAt 220 = .ok (.ireturn, 1) := by decide +kernel
set_option maxRecDepth 20000 in
theorem ggX3_passTuesdays_X3_settle : GoodIn wsX3_passTuesdays wsX3_settle := goodIn_r _ [16, 17, 18, 1, 9, 10, 19, 20, 21, 22, 23, 24, 25, 26, 27, 28, 15, 29, 30, 4, 5, 6, 7, 31, 32, 33, 34, 35, 36, 37, 38, 39, 8, 46, 47, 48, 49, 50, 51, 52, 53, 54, 55, 56, 57, 58] (by decide +kernel) (by decide +kernel)
set_option maxRecDepth 20000 in
theorem gX3_passTuesdays_X3_settle : GoodIn wsX3_passTuesdays (wsV RX3 95 RX3 yX3_settle wsX3_settle) := goodIn_app (goodIn_of _ (by decide +kernel)) ggX3_passTuesdays_X3_settle
set_option maxRecDepth 20000 in
theorem ggX3_passTuesdays_X3_getsNow : GoodIn wsX3_passTuesdays wsX3_getsNow := goodIn_r _ [43, 10, 38, 18, 23, 24, 25, 44, 45, 46, 47, 48, 49, 50, 51, 52, 53, 54, 55, 56, 57, 58] (by decide +kernel) (by decide +kernel)
set_option maxRecDepth 20000 in
theorem gX3_passTuesdays_X3_getsNow : GoodIn wsX3_passTuesdays (wsV RX3 98 RX3 yX3_getsNow wsX3_getsNow) := goodIn_app (goodIn_of _ (by decide +kernel)) ggX3_passTuesdays_X3_getsNow
theorem dX3_passTuesdays_0 : decode cX3_passTuesdays 0 = .ok (.iconst 0, 1) := by decide +kernel
theorem dX3_passTuesdays_1 : decode cX3_passTuesdays 1 = .ok (.istore_n 2, 1) := by decide +kernel
theorem dX3_passTuesdays_2 : decode cX3_passTuesdays 2 = .ok (.iload_n 2, 1) := by decide +kernel
theorem dX3_passTuesdays_3 : decode cX3_passTuesdays 3 = .ok (.iload_n 1, 1) := by decide +kernel
theorem dX3_passTuesdays_4 : decode cX3_passTuesdays 4 = .ok (.if_icmp .ge 116, 3) := by decide +kernel
theorem dX3_passTuesdays_7 : decode cX3_passTuesdays 7 = .ok (.aload_n 0, 1) := by decide +kernel
theorem dX3_passTuesdays_8 : decode cX3_passTuesdays 8 = .ok (.invokevirtual 95, 3) := by decide +kernel
theorem dX3_passTuesdays_11 : decode cX3_passTuesdays 11 = .ok (.iconst 0, 1) := by decide +kernel
theorem dX3_passTuesdays_12 : decode cX3_passTuesdays 12 = .ok (.istore_n 3, 1) := by decide +kernel
theorem dX3_passTuesdays_13 : decode cX3_passTuesdays 13 = .ok (.iload_n 3, 1) := by decide +kernel
theorem dX3_passTuesdays_14 : decode cX3_passTuesdays 14 = .ok (.aload_n 0, 1) := by decide +kernel
theorem dX3_passTuesdays_15 : decode cX3_passTuesdays 15 = .ok (.getfield 48, 3) := by decide +kernel
theorem dX3_passTuesdays_18 : decode cX3_passTuesdays 18 = .ok (.if_icmp .ge 32, 3) := by decide +kernel
theorem dX3_passTuesdays_21 : decode cX3_passTuesdays 21 = .ok (.aload_n 0, 1) := by decide +kernel
theorem dX3_passTuesdays_22 : decode cX3_passTuesdays 22 = .ok (.getfield 27, 3) := by decide +kernel
theorem dX3_passTuesdays_25 : decode cX3_passTuesdays 25 = .ok (.iload_n 3, 1) := by decide +kernel
theorem dX3_passTuesdays_26 : decode cX3_passTuesdays 26 = .ok (.ldc 75, 2) := by decide +kernel
theorem dX3_passTuesdays_28 : decode cX3_passTuesdays 28 = .ok (.aload_n 0, 1) := by decide +kernel
theorem dX3_passTuesdays_29 : decode cX3_passTuesdays 29 = .ok (.getfield 27, 3) := by decide +kernel
theorem dX3_passTuesdays_32 : decode cX3_passTuesdays 32 = .ok (.iload_n 3, 1) := by decide +kernel
theorem dX3_passTuesdays_33 : decode cX3_passTuesdays 33 = .ok (.iaload, 1) := by decide +kernel
theorem dX3_passTuesdays_34 : decode cX3_passTuesdays 34 = .ok (.aload_n 0, 1) := by decide +kernel
theorem dX3_passTuesdays_35 : decode cX3_passTuesdays 35 = .ok (.iload_n 3, 1) := by decide +kernel
theorem dX3_passTuesdays_36 : decode cX3_passTuesdays 36 = .ok (.invokevirtual 98, 3) := by decide +kernel
theorem dX3_passTuesdays_39 : decode cX3_passTuesdays 39 = .ok (.iadd, 1) := by decide +kernel
theorem dX3_passTuesdays_40 : decode cX3_passTuesdays 40 = .ok (.invokestatic 84, 3) := by decide +kernel
theorem dX3_passTuesdays_43 : decode cX3_passTuesdays 43 = .ok (.iastore, 1) := by decide +kernel
theorem dX3_passTuesdays_44 : decode cX3_passTuesdays 44 = .ok (.iinc 3 1, 3) := by decide +kernel
theorem dX3_passTuesdays_47 : decode cX3_passTuesdays 47 = .ok (.goto (-34), 3) := by decide +kernel
theorem dX3_passTuesdays_50 : decode cX3_passTuesdays 50 = .ok (.iconst 0, 1) := by decide +kernel
theorem dX3_passTuesdays_51 : decode cX3_passTuesdays 51 = .ok (.istore_n 3, 1) := by decide +kernel
theorem dX3_passTuesdays_52 : decode cX3_passTuesdays 52 = .ok (.iload_n 3, 1) := by decide +kernel
theorem dX3_passTuesdays_53 : decode cX3_passTuesdays 53 = .ok (.aload_n 0, 1) := by decide +kernel
theorem dX3_passTuesdays_54 : decode cX3_passTuesdays 54 = .ok (.getfield 48, 3) := by decide +kernel
theorem dX3_passTuesdays_57 : decode cX3_passTuesdays 57 = .ok (.if_icmp .ge 42, 3) := by decide +kernel
theorem dX3_passTuesdays_60 : decode cX3_passTuesdays 60 = .ok (.aload_n 0, 1) := by decide +kernel
theorem dX3_passTuesdays_61 : decode cX3_passTuesdays 61 = .ok (.getfield 15, 3) := by decide +kernel
theorem dX3_passTuesdays_64 : decode cX3_passTuesdays 64 = .ok (.iload_n 3, 1) := by decide +kernel
theorem dX3_passTuesdays_65 : decode cX3_passTuesdays 65 = .ok (.iaload, 1) := by decide +kernel
theorem dX3_passTuesdays_66 : decode cX3_passTuesdays 66 = .ok (.iconst 5, 1) := by decide +kernel
theorem dX3_passTuesdays_67 : decode cX3_passTuesdays 67 = .ok (.if_icmp .eq 26, 3) := by decide +kernel
theorem dX3_passTuesdays_70 : decode cX3_passTuesdays 70 = .ok (.aload_n 0, 1) := by decide +kernel
theorem dX3_passTuesdays_71 : decode cX3_passTuesdays 71 = .ok (.getfield 15, 3) := by decide +kernel
theorem dX3_passTuesdays_74 : decode cX3_passTuesdays 74 = .ok (.iload_n 3, 1) := by decide +kernel
theorem dX3_passTuesdays_75 : decode cX3_passTuesdays 75 = .ok (.iaload, 1) := by decide +kernel
theorem dX3_passTuesdays_76 : decode cX3_passTuesdays 76 = .ok (.bipush 6, 2) := by decide +kernel
theorem dX3_passTuesdays_78 : decode cX3_passTuesdays 78 = .ok (.if_icmp .eq 15, 3) := by decide +kernel
theorem dX3_passTuesdays_81 : decode cX3_passTuesdays 81 = .ok (.aload_n 0, 1) := by decide +kernel
theorem dX3_passTuesdays_82 : decode cX3_passTuesdays 82 = .ok (.getfield 18, 3) := by decide +kernel
theorem dX3_passTuesdays_85 : decode cX3_passTuesdays 85 = .ok (.iload_n 3, 1) := by decide +kernel
theorem dX3_passTuesdays_86 : decode cX3_passTuesdays 86 = .ok (.aload_n 0, 1) := by decide +kernel
theorem dX3_passTuesdays_87 : decode cX3_passTuesdays 87 = .ok (.getfield 36, 3) := by decide +kernel
theorem dX3_passTuesdays_90 : decode cX3_passTuesdays 90 = .ok (.iload_n 3, 1) := by decide +kernel
theorem dX3_passTuesdays_91 : decode cX3_passTuesdays 91 = .ok (.iaload, 1) := by decide +kernel
theorem dX3_passTuesdays_92 : decode cX3_passTuesdays 92 = .ok (.iastore, 1) := by decide +kernel
theorem dX3_passTuesdays_93 : decode cX3_passTuesdays 93 = .ok (.iinc 3 1, 3) := by decide +kernel
theorem dX3_passTuesdays_96 : decode cX3_passTuesdays 96 = .ok (.goto (-44), 3) := by decide +kernel
theorem dX3_passTuesdays_99 : decode cX3_passTuesdays 99 = .ok (.aload_n 0, 1) := by decide +kernel
theorem dX3_passTuesdays_100 : decode cX3_passTuesdays 100 = .ok (.ldc 75, 2) := by decide +kernel
theorem dX3_passTuesdays_102 : decode cX3_passTuesdays 102 = .ok (.aload_n 0, 1) := by decide +kernel
theorem dX3_passTuesdays_103 : decode cX3_passTuesdays 103 = .ok (.getfield 52, 3) := by decide +kernel
theorem dX3_passTuesdays_106 : decode cX3_passTuesdays 106 = .ok (.iconst 1, 1) := by decide +kernel
theorem dX3_passTuesdays_107 : decode cX3_passTuesdays 107 = .ok (.iadd, 1) := by decide +kernel
theorem dX3_passTuesdays_108 : decode cX3_passTuesdays 108 = .ok (.invokestatic 84, 3) := by decide +kernel
theorem dX3_passTuesdays_111 : decode cX3_passTuesdays 111 = .ok (.putfield 52, 3) := by decide +kernel
theorem dX3_passTuesdays_114 : decode cX3_passTuesdays 114 = .ok (.iinc 2 1, 3) := by decide +kernel
theorem dX3_passTuesdays_117 : decode cX3_passTuesdays 117 = .ok (.goto (-115), 3) := by decide +kernel
theorem dX3_passTuesdays_120 : decode cX3_passTuesdays 120 = .ok (.return_, 1) := by decide +kernel
set_option maxRecDepth 20000 in
theorem ggX3_getsNow_X4_isPlace : GoodIn wsX3_getsNow wsX4_isPlace := goodIn_r _ [6] (by decide +kernel) (by decide +kernel)
set_option maxRecDepth 20000 in
theorem gX3_getsNow_X4_isPlace_n68 : GoodIn wsX3_getsNow (wsX4_isPlace) := ggX3_getsNow_X4_isPlace
set_option maxRecDepth 20000 in
theorem ggX3_getsNow_X4_shareOf : GoodIn wsX3_getsNow wsX4_shareOf := goodIn_r _ [8] (by decide +kernel) (by decide +kernel)
set_option maxRecDepth 20000 in
theorem gX3_getsNow_X4_shareOf_n101 : GoodIn wsX3_getsNow (wsX4_shareOf) := ggX3_getsNow_X4_shareOf
theorem dX3_getsNow_0 : decode cX3_getsNow 0 = .ok (.aload_n 0, 1) := by decide +kernel
theorem dX3_getsNow_1 : decode cX3_getsNow 1 = .ok (.getfield 36, 3) := by decide +kernel
theorem dX3_getsNow_4 : decode cX3_getsNow 4 = .ok (.iload_n 1, 1) := by decide +kernel
theorem dX3_getsNow_5 : decode cX3_getsNow 5 = .ok (.iaload, 1) := by decide +kernel
theorem dX3_getsNow_6 : decode cX3_getsNow 6 = .ok (.istore_n 2, 1) := by decide +kernel
theorem dX3_getsNow_7 : decode cX3_getsNow 7 = .ok (.iload_n 2, 1) := by decide +kernel
theorem dX3_getsNow_8 : decode cX3_getsNow 8 = .ok (.invokestatic 68, 3) := by decide +kernel
theorem dX3_getsNow_11 : decode cX3_getsNow 11 = .ok (.ifCond .eq 21, 3) := by decide +kernel
theorem dX3_getsNow_14 : decode cX3_getsNow 14 = .ok (.aload_n 0, 1) := by decide +kernel
theorem dX3_getsNow_15 : decode cX3_getsNow 15 = .ok (.getfield 9, 3) := by decide +kernel
theorem dX3_getsNow_18 : decode cX3_getsNow 18 = .ok (.iload_n 2, 1) := by decide +kernel
theorem dX3_getsNow_19 : decode cX3_getsNow 19 = .ok (.iaload, 1) := by decide +kernel
theorem dX3_getsNow_20 : decode cX3_getsNow 20 = .ok (.aload_n 0, 1) := by decide +kernel
theorem dX3_getsNow_21 : decode cX3_getsNow 21 = .ok (.getfield 39, 3) := by decide +kernel
theorem dX3_getsNow_24 : decode cX3_getsNow 24 = .ok (.iload_n 2, 1) := by decide +kernel
theorem dX3_getsNow_25 : decode cX3_getsNow 25 = .ok (.iaload, 1) := by decide +kernel
theorem dX3_getsNow_26 : decode cX3_getsNow 26 = .ok (.invokestatic 101, 3) := by decide +kernel
theorem dX3_getsNow_29 : decode cX3_getsNow 29 = .ok (.goto 4, 3) := by decide +kernel
theorem dX3_getsNow_32 : decode cX3_getsNow 32 = .ok (.iconst 0, 1) := by decide +kernel
theorem dX3_getsNow_33 : decode cX3_getsNow 33 = .ok (.ireturn, 1) := by decide +kernel
set_option maxRecDepth 20000 in
theorem ggX3_regretsNow_X3_getsNow : GoodIn wsX3_regretsNow wsX3_getsNow := goodIn_r _ [8, 1, 2, 3, 9, 10, 11, 12, 13, 14, 15, 16, 17, 18, 19, 20, 21, 22, 23, 24, 25, 26] (by decide +kernel) (by decide +kernel)
set_option maxRecDepth 20000 in
theorem gX3_regretsNow_X3_getsNow : GoodIn wsX3_regretsNow (wsV RX3 98 RX3 yX3_getsNow wsX3_getsNow) := goodIn_app (goodIn_of _ (by decide +kernel)) ggX3_regretsNow_X3_getsNow
set_option maxRecDepth 20000 in
theorem ggX3_regretsNow_X4_shareOf : GoodIn wsX3_regretsNow wsX4_shareOf := goodIn_r _ [13] (by decide +kernel) (by decide +kernel)
set_option maxRecDepth 20000 in
theorem gX3_regretsNow_X4_shareOf_n101 : GoodIn wsX3_regretsNow (wsX4_shareOf) := ggX3_regretsNow_X4_shareOf
theorem dX3_regretsNow_0 : decode cX3_regretsNow 0 = .ok (.aload_n 0, 1) := by decide +kernel
theorem dX3_regretsNow_1 : decode cX3_regretsNow 1 = .ok (.iload_n 1, 1) := by decide +kernel
theorem dX3_regretsNow_2 : decode cX3_regretsNow 2 = .ok (.invokevirtual 98, 3) := by decide +kernel
theorem dX3_regretsNow_5 : decode cX3_regretsNow 5 = .ok (.istore_n 2, 1) := by decide +kernel
theorem dX3_regretsNow_6 : decode cX3_regretsNow 6 = .ok (.iconst 0, 1) := by decide +kernel
theorem dX3_regretsNow_7 : decode cX3_regretsNow 7 = .ok (.istore_n 3, 1) := by decide +kernel
theorem dX3_regretsNow_8 : decode cX3_regretsNow 8 = .ok (.iload_n 3, 1) := by decide +kernel
theorem dX3_regretsNow_9 : decode cX3_regretsNow 9 = .ok (.bipush 8, 2) := by decide +kernel
theorem dX3_regretsNow_11 : decode cX3_regretsNow 11 = .ok (.if_icmp .ge 42, 3) := by decide +kernel
theorem dX3_regretsNow_14 : decode cX3_regretsNow 14 = .ok (.iload_n 3, 1) := by decide +kernel
theorem dX3_regretsNow_15 : decode cX3_regretsNow 15 = .ok (.aload_n 0, 1) := by decide +kernel
theorem dX3_regretsNow_16 : decode cX3_regretsNow 16 = .ok (.getfield 36, 3) := by decide +kernel
theorem dX3_regretsNow_19 : decode cX3_regretsNow 19 = .ok (.iload_n 1, 1) := by decide +kernel
theorem dX3_regretsNow_20 : decode cX3_regretsNow 20 = .ok (.iaload, 1) := by decide +kernel
theorem dX3_regretsNow_21 : decode cX3_regretsNow 21 = .ok (.if_icmp .eq 26, 3) := by decide +kernel
theorem dX3_regretsNow_24 : decode cX3_regretsNow 24 = .ok (.aload_n 0, 1) := by decide +kernel
theorem dX3_regretsNow_25 : decode cX3_regretsNow 25 = .ok (.getfield 9, 3) := by decide +kernel
theorem dX3_regretsNow_28 : decode cX3_regretsNow 28 = .ok (.iload_n 3, 1) := by decide +kernel
theorem dX3_regretsNow_29 : decode cX3_regretsNow 29 = .ok (.iaload, 1) := by decide +kernel
theorem dX3_regretsNow_30 : decode cX3_regretsNow 30 = .ok (.aload_n 0, 1) := by decide +kernel
theorem dX3_regretsNow_31 : decode cX3_regretsNow 31 = .ok (.getfield 39, 3) := by decide +kernel
theorem dX3_regretsNow_34 : decode cX3_regretsNow 34 = .ok (.iload_n 3, 1) := by decide +kernel
theorem dX3_regretsNow_35 : decode cX3_regretsNow 35 = .ok (.iaload, 1) := by decide +kernel
theorem dX3_regretsNow_36 : decode cX3_regretsNow 36 = .ok (.iconst 1, 1) := by decide +kernel
theorem dX3_regretsNow_37 : decode cX3_regretsNow 37 = .ok (.iadd, 1) := by decide +kernel
theorem dX3_regretsNow_38 : decode cX3_regretsNow 38 = .ok (.invokestatic 101, 3) := by decide +kernel
theorem dX3_regretsNow_41 : decode cX3_regretsNow 41 = .ok (.iload_n 2, 1) := by decide +kernel
theorem dX3_regretsNow_42 : decode cX3_regretsNow 42 = .ok (.if_icmp .le 5, 3) := by decide +kernel
theorem dX3_regretsNow_45 : decode cX3_regretsNow 45 = .ok (.iconst 1, 1) := by decide +kernel
theorem dX3_regretsNow_46 : decode cX3_regretsNow 46 = .ok (.ireturn, 1) := by decide +kernel
theorem dX3_regretsNow_47 : decode cX3_regretsNow 47 = .ok (.iinc 3 1, 3) := by decide +kernel
theorem dX3_regretsNow_50 : decode cX3_regretsNow 50 = .ok (.goto (-42), 3) := by decide +kernel
theorem dX3_regretsNow_53 : decode cX3_regretsNow 53 = .ok (.iconst 0, 1) := by decide +kernel
theorem dX3_regretsNow_54 : decode cX3_regretsNow 54 = .ok (.ireturn, 1) := by decide +kernel
set_option maxRecDepth 20000 in
theorem ggX3_regretters_X3_regretsNow : GoodIn wsX3_regretters wsX3_regretsNow := goodIn_r _ [6, 7, 8, 9, 10, 11, 12, 5, 13, 14, 15, 16, 17, 18, 19, 20, 21, 22, 23, 24, 25, 26, 27, 28, 29, 30, 31] (by decide +kernel) (by decide +kernel)
set_option maxRecDepth 20000 in
theorem gX3_regretters_X3_regretsNow : GoodIn wsX3_regretters (wsV RX3 104 RX3 yX3_regretsNow wsX3_regretsNow) := goodIn_app (goodIn_of _ (by decide +kernel)) ggX3_regretters_X3_regretsNow
theorem dX3_regretters_0 : decode cX3_regretters 0 = .ok (.iconst 0, 1) := by decide +kernel
theorem dX3_regretters_1 : decode cX3_regretters 1 = .ok (.istore_n 1, 1) := by decide +kernel
theorem dX3_regretters_2 : decode cX3_regretters 2 = .ok (.iconst 0, 1) := by decide +kernel
theorem dX3_regretters_3 : decode cX3_regretters 3 = .ok (.istore_n 2, 1) := by decide +kernel
theorem dX3_regretters_4 : decode cX3_regretters 4 = .ok (.iload_n 2, 1) := by decide +kernel
theorem dX3_regretters_5 : decode cX3_regretters 5 = .ok (.aload_n 0, 1) := by decide +kernel
theorem dX3_regretters_6 : decode cX3_regretters 6 = .ok (.getfield 48, 3) := by decide +kernel
theorem dX3_regretters_9 : decode cX3_regretters 9 = .ok (.if_icmp .ge 27, 3) := by decide +kernel
theorem dX3_regretters_12 : decode cX3_regretters 12 = .ok (.iload_n 1, 1) := by decide +kernel
theorem dX3_regretters_13 : decode cX3_regretters 13 = .ok (.aload_n 0, 1) := by decide +kernel
theorem dX3_regretters_14 : decode cX3_regretters 14 = .ok (.iload_n 2, 1) := by decide +kernel
theorem dX3_regretters_15 : decode cX3_regretters 15 = .ok (.invokevirtual 104, 3) := by decide +kernel
theorem dX3_regretters_18 : decode cX3_regretters 18 = .ok (.ifCond .eq 9, 3) := by decide +kernel
theorem dX3_regretters_21 : decode cX3_regretters 21 = .ok (.iconst 1, 1) := by decide +kernel
theorem dX3_regretters_22 : decode cX3_regretters 22 = .ok (.iload_n 2, 1) := by decide +kernel
theorem dX3_regretters_23 : decode cX3_regretters 23 = .ok (.ishl, 1) := by decide +kernel
theorem dX3_regretters_24 : decode cX3_regretters 24 = .ok (.goto 4, 3) := by decide +kernel
theorem dX3_regretters_27 : decode cX3_regretters 27 = .ok (.iconst 0, 1) := by decide +kernel
theorem dX3_regretters_28 : decode cX3_regretters 28 = .ok (.ior, 1) := by decide +kernel
theorem dX3_regretters_29 : decode cX3_regretters 29 = .ok (.istore_n 1, 1) := by decide +kernel
theorem dX3_regretters_30 : decode cX3_regretters 30 = .ok (.iinc 2 1, 3) := by decide +kernel
theorem dX3_regretters_33 : decode cX3_regretters 33 = .ok (.goto (-29), 3) := by decide +kernel
theorem dX3_regretters_36 : decode cX3_regretters 36 = .ok (.iload_n 1, 1) := by decide +kernel
theorem dX3_regretters_37 : decode cX3_regretters 37 = .ok (.ireturn, 1) := by decide +kernel
theorem dX3_movers_0 : decode cX3_movers 0 = .ok (.iconst 0, 1) := by decide +kernel
theorem dX3_movers_1 : decode cX3_movers 1 = .ok (.istore_n 1, 1) := by decide +kernel
theorem dX3_movers_2 : decode cX3_movers 2 = .ok (.iconst 0, 1) := by decide +kernel
theorem dX3_movers_3 : decode cX3_movers 3 = .ok (.istore_n 2, 1) := by decide +kernel
theorem dX3_movers_4 : decode cX3_movers 4 = .ok (.iload_n 2, 1) := by decide +kernel
theorem dX3_movers_5 : decode cX3_movers 5 = .ok (.aload_n 0, 1) := by decide +kernel
theorem dX3_movers_6 : decode cX3_movers 6 = .ok (.getfield 48, 3) := by decide +kernel
theorem dX3_movers_9 : decode cX3_movers 9 = .ok (.if_icmp .ge 34, 3) := by decide +kernel
theorem dX3_movers_12 : decode cX3_movers 12 = .ok (.iload_n 1, 1) := by decide +kernel
theorem dX3_movers_13 : decode cX3_movers 13 = .ok (.aload_n 0, 1) := by decide +kernel
theorem dX3_movers_14 : decode cX3_movers 14 = .ok (.getfield 36, 3) := by decide +kernel
theorem dX3_movers_17 : decode cX3_movers 17 = .ok (.iload_n 2, 1) := by decide +kernel
theorem dX3_movers_18 : decode cX3_movers 18 = .ok (.iaload, 1) := by decide +kernel
theorem dX3_movers_19 : decode cX3_movers 19 = .ok (.aload_n 0, 1) := by decide +kernel
theorem dX3_movers_20 : decode cX3_movers 20 = .ok (.getfield 18, 3) := by decide +kernel
theorem dX3_movers_23 : decode cX3_movers 23 = .ok (.iload_n 2, 1) := by decide +kernel
theorem dX3_movers_24 : decode cX3_movers 24 = .ok (.iaload, 1) := by decide +kernel
theorem dX3_movers_25 : decode cX3_movers 25 = .ok (.if_icmp .eq 9, 3) := by decide +kernel
theorem dX3_movers_28 : decode cX3_movers 28 = .ok (.iconst 1, 1) := by decide +kernel
theorem dX3_movers_29 : decode cX3_movers 29 = .ok (.iload_n 2, 1) := by decide +kernel
theorem dX3_movers_30 : decode cX3_movers 30 = .ok (.ishl, 1) := by decide +kernel
theorem dX3_movers_31 : decode cX3_movers 31 = .ok (.goto 4, 3) := by decide +kernel
theorem dX3_movers_34 : decode cX3_movers 34 = .ok (.iconst 0, 1) := by decide +kernel
theorem dX3_movers_35 : decode cX3_movers 35 = .ok (.ior, 1) := by decide +kernel
theorem dX3_movers_36 : decode cX3_movers 36 = .ok (.istore_n 1, 1) := by decide +kernel
theorem dX3_movers_37 : decode cX3_movers 37 = .ok (.iinc 2 1, 3) := by decide +kernel
theorem dX3_movers_40 : decode cX3_movers 40 = .ok (.goto (-36), 3) := by decide +kernel
theorem dX3_movers_43 : decode cX3_movers 43 = .ok (.iload_n 1, 1) := by decide +kernel
theorem dX3_movers_44 : decode cX3_movers 44 = .ok (.ireturn, 1) := by decide +kernel
theorem dX3_plannersOf_0 : decode cX3_plannersOf 0 = .ok (.iconst 0, 1) := by decide +kernel
theorem dX3_plannersOf_1 : decode cX3_plannersOf 1 = .ok (.istore_n 2, 1) := by decide +kernel
theorem dX3_plannersOf_2 : decode cX3_plannersOf 2 = .ok (.iconst 0, 1) := by decide +kernel
theorem dX3_plannersOf_3 : decode cX3_plannersOf 3 = .ok (.istore_n 3, 1) := by decide +kernel
theorem dX3_plannersOf_4 : decode cX3_plannersOf 4 = .ok (.iload_n 3, 1) := by decide +kernel
theorem dX3_plannersOf_5 : decode cX3_plannersOf 5 = .ok (.aload_n 0, 1) := by decide +kernel
theorem dX3_plannersOf_6 : decode cX3_plannersOf 6 = .ok (.getfield 48, 3) := by decide +kernel
theorem dX3_plannersOf_9 : decode cX3_plannersOf 9 = .ok (.if_icmp .ge 29, 3) := by decide +kernel
theorem dX3_plannersOf_12 : decode cX3_plannersOf 12 = .ok (.iload_n 2, 1) := by decide +kernel
theorem dX3_plannersOf_13 : decode cX3_plannersOf 13 = .ok (.aload_n 0, 1) := by decide +kernel
theorem dX3_plannersOf_14 : decode cX3_plannersOf 14 = .ok (.getfield 18, 3) := by decide +kernel
theorem dX3_plannersOf_17 : decode cX3_plannersOf 17 = .ok (.iload_n 3, 1) := by decide +kernel
theorem dX3_plannersOf_18 : decode cX3_plannersOf 18 = .ok (.iaload, 1) := by decide +kernel
theorem dX3_plannersOf_19 : decode cX3_plannersOf 19 = .ok (.iload_n 1, 1) := by decide +kernel
theorem dX3_plannersOf_20 : decode cX3_plannersOf 20 = .ok (.if_icmp .ne 9, 3) := by decide +kernel
theorem dX3_plannersOf_23 : decode cX3_plannersOf 23 = .ok (.iconst 1, 1) := by decide +kernel
theorem dX3_plannersOf_24 : decode cX3_plannersOf 24 = .ok (.iload_n 3, 1) := by decide +kernel
theorem dX3_plannersOf_25 : decode cX3_plannersOf 25 = .ok (.ishl, 1) := by decide +kernel
theorem dX3_plannersOf_26 : decode cX3_plannersOf 26 = .ok (.goto 4, 3) := by decide +kernel
theorem dX3_plannersOf_29 : decode cX3_plannersOf 29 = .ok (.iconst 0, 1) := by decide +kernel
theorem dX3_plannersOf_30 : decode cX3_plannersOf 30 = .ok (.ior, 1) := by decide +kernel
theorem dX3_plannersOf_31 : decode cX3_plannersOf 31 = .ok (.istore_n 2, 1) := by decide +kernel
theorem dX3_plannersOf_32 : decode cX3_plannersOf 32 = .ok (.iinc 3 1, 3) := by decide +kernel
theorem dX3_plannersOf_35 : decode cX3_plannersOf 35 = .ok (.goto (-31), 3) := by decide +kernel
theorem dX3_plannersOf_38 : decode cX3_plannersOf 38 = .ok (.iload_n 2, 1) := by decide +kernel
theorem dX3_plannersOf_39 : decode cX3_plannersOf 39 = .ok (.ireturn, 1) := by decide +kernel
theorem dX3_choosersOf_0 : decode cX3_choosersOf 0 = .ok (.iconst 0, 1) := by decide +kernel
theorem dX3_choosersOf_1 : decode cX3_choosersOf 1 = .ok (.istore_n 2, 1) := by decide +kernel
theorem dX3_choosersOf_2 : decode cX3_choosersOf 2 = .ok (.iconst 0, 1) := by decide +kernel
theorem dX3_choosersOf_3 : decode cX3_choosersOf 3 = .ok (.istore_n 3, 1) := by decide +kernel
theorem dX3_choosersOf_4 : decode cX3_choosersOf 4 = .ok (.iload_n 3, 1) := by decide +kernel
theorem dX3_choosersOf_5 : decode cX3_choosersOf 5 = .ok (.aload_n 0, 1) := by decide +kernel
theorem dX3_choosersOf_6 : decode cX3_choosersOf 6 = .ok (.getfield 48, 3) := by decide +kernel
theorem dX3_choosersOf_9 : decode cX3_choosersOf 9 = .ok (.if_icmp .ge 29, 3) := by decide +kernel
theorem dX3_choosersOf_12 : decode cX3_choosersOf 12 = .ok (.iload_n 2, 1) := by decide +kernel
theorem dX3_choosersOf_13 : decode cX3_choosersOf 13 = .ok (.aload_n 0, 1) := by decide +kernel
theorem dX3_choosersOf_14 : decode cX3_choosersOf 14 = .ok (.getfield 36, 3) := by decide +kernel
theorem dX3_choosersOf_17 : decode cX3_choosersOf 17 = .ok (.iload_n 3, 1) := by decide +kernel
theorem dX3_choosersOf_18 : decode cX3_choosersOf 18 = .ok (.iaload, 1) := by decide +kernel
theorem dX3_choosersOf_19 : decode cX3_choosersOf 19 = .ok (.iload_n 1, 1) := by decide +kernel
theorem dX3_choosersOf_20 : decode cX3_choosersOf 20 = .ok (.if_icmp .ne 9, 3) := by decide +kernel
theorem dX3_choosersOf_23 : decode cX3_choosersOf 23 = .ok (.iconst 1, 1) := by decide +kernel
theorem dX3_choosersOf_24 : decode cX3_choosersOf 24 = .ok (.iload_n 3, 1) := by decide +kernel
theorem dX3_choosersOf_25 : decode cX3_choosersOf 25 = .ok (.ishl, 1) := by decide +kernel
theorem dX3_choosersOf_26 : decode cX3_choosersOf 26 = .ok (.goto 4, 3) := by decide +kernel
theorem dX3_choosersOf_29 : decode cX3_choosersOf 29 = .ok (.iconst 0, 1) := by decide +kernel
theorem dX3_choosersOf_30 : decode cX3_choosersOf 30 = .ok (.ior, 1) := by decide +kernel
theorem dX3_choosersOf_31 : decode cX3_choosersOf 31 = .ok (.istore_n 2, 1) := by decide +kernel
theorem dX3_choosersOf_32 : decode cX3_choosersOf 32 = .ok (.iinc 3 1, 3) := by decide +kernel
theorem dX3_choosersOf_35 : decode cX3_choosersOf 35 = .ok (.goto (-31), 3) := by decide +kernel
theorem dX3_choosersOf_38 : decode cX3_choosersOf 38 = .ok (.iload_n 2, 1) := by decide +kernel
theorem dX3_choosersOf_39 : decode cX3_choosersOf 39 = .ok (.ireturn, 1) := by decide +kernel
theorem dX3_visitedPlaces_0 : decode cX3_visitedPlaces 0 = .ok (.iconst 0, 1) := by decide +kernel
theorem dX3_visitedPlaces_1 : decode cX3_visitedPlaces 1 = .ok (.istore_n 1, 1) := by decide +kernel
theorem dX3_visitedPlaces_2 : decode cX3_visitedPlaces 2 = .ok (.iconst 0, 1) := by decide +kernel
theorem dX3_visitedPlaces_3 : decode cX3_visitedPlaces 3 = .ok (.istore_n 2, 1) := by decide +kernel
theorem dX3_visitedPlaces_4 : decode cX3_visitedPlaces 4 = .ok (.iload_n 2, 1) := by decide +kernel
theorem dX3_visitedPlaces_5 : decode cX3_visitedPlaces 5 = .ok (.bipush 8, 2) := by decide +kernel
theorem dX3_visitedPlaces_7 : decode cX3_visitedPlaces 7 = .ok (.if_icmp .ge 28, 3) := by decide +kernel
theorem dX3_visitedPlaces_10 : decode cX3_visitedPlaces 10 = .ok (.iload_n 1, 1) := by decide +kernel
theorem dX3_visitedPlaces_11 : decode cX3_visitedPlaces 11 = .ok (.aload_n 0, 1) := by decide +kernel
theorem dX3_visitedPlaces_12 : decode cX3_visitedPlaces 12 = .ok (.getfield 39, 3) := by decide +kernel
theorem dX3_visitedPlaces_15 : decode cX3_visitedPlaces 15 = .ok (.iload_n 2, 1) := by decide +kernel
theorem dX3_visitedPlaces_16 : decode cX3_visitedPlaces 16 = .ok (.iaload, 1) := by decide +kernel
theorem dX3_visitedPlaces_17 : decode cX3_visitedPlaces 17 = .ok (.ifCond .le 9, 3) := by decide +kernel
theorem dX3_visitedPlaces_20 : decode cX3_visitedPlaces 20 = .ok (.iconst 1, 1) := by decide +kernel
theorem dX3_visitedPlaces_21 : decode cX3_visitedPlaces 21 = .ok (.iload_n 2, 1) := by decide +kernel
theorem dX3_visitedPlaces_22 : decode cX3_visitedPlaces 22 = .ok (.ishl, 1) := by decide +kernel
theorem dX3_visitedPlaces_23 : decode cX3_visitedPlaces 23 = .ok (.goto 4, 3) := by decide +kernel
theorem dX3_visitedPlaces_26 : decode cX3_visitedPlaces 26 = .ok (.iconst 0, 1) := by decide +kernel
theorem dX3_visitedPlaces_27 : decode cX3_visitedPlaces 27 = .ok (.ior, 1) := by decide +kernel
theorem dX3_visitedPlaces_28 : decode cX3_visitedPlaces 28 = .ok (.istore_n 1, 1) := by decide +kernel
theorem dX3_visitedPlaces_29 : decode cX3_visitedPlaces 29 = .ok (.iinc 2 1, 3) := by decide +kernel
theorem dX3_visitedPlaces_32 : decode cX3_visitedPlaces 32 = .ok (.goto (-28), 3) := by decide +kernel
theorem dX3_visitedPlaces_35 : decode cX3_visitedPlaces 35 = .ok (.iload_n 1, 1) := by decide +kernel
theorem dX3_visitedPlaces_36 : decode cX3_visitedPlaces 36 = .ok (.ireturn, 1) := by decide +kernel
theorem dX3_hasPlansOf_0 : decode cX3_hasPlansOf 0 = .ok (.iconst 0, 1) := by decide +kernel
theorem dX3_hasPlansOf_1 : decode cX3_hasPlansOf 1 = .ok (.istore_n 2, 1) := by decide +kernel
theorem dX3_hasPlansOf_2 : decode cX3_hasPlansOf 2 = .ok (.iload_n 2, 1) := by decide +kernel
theorem dX3_hasPlansOf_3 : decode cX3_hasPlansOf 3 = .ok (.aload_n 0, 1) := by decide +kernel
theorem dX3_hasPlansOf_4 : decode cX3_hasPlansOf 4 = .ok (.getfield 48, 3) := by decide +kernel
theorem dX3_hasPlansOf_7 : decode cX3_hasPlansOf 7 = .ok (.if_icmp .ge 26, 3) := by decide +kernel
theorem dX3_hasPlansOf_10 : decode cX3_hasPlansOf 10 = .ok (.aload_n 0, 1) := by decide +kernel
theorem dX3_hasPlansOf_11 : decode cX3_hasPlansOf 11 = .ok (.getfield 18, 3) := by decide +kernel
theorem dX3_hasPlansOf_14 : decode cX3_hasPlansOf 14 = .ok (.iload_n 2, 1) := by decide +kernel
theorem dX3_hasPlansOf_15 : decode cX3_hasPlansOf 15 = .ok (.iaload, 1) := by decide +kernel
theorem dX3_hasPlansOf_16 : decode cX3_hasPlansOf 16 = .ok (.aload_n 1, 1) := by decide +kernel
theorem dX3_hasPlansOf_17 : decode cX3_hasPlansOf 17 = .ok (.getfield 18, 3) := by decide +kernel
theorem dX3_hasPlansOf_20 : decode cX3_hasPlansOf 20 = .ok (.iload_n 2, 1) := by decide +kernel
theorem dX3_hasPlansOf_21 : decode cX3_hasPlansOf 21 = .ok (.iaload, 1) := by decide +kernel
theorem dX3_hasPlansOf_22 : decode cX3_hasPlansOf 22 = .ok (.if_icmp .eq 5, 3) := by decide +kernel
theorem dX3_hasPlansOf_25 : decode cX3_hasPlansOf 25 = .ok (.iconst 0, 1) := by decide +kernel
theorem dX3_hasPlansOf_26 : decode cX3_hasPlansOf 26 = .ok (.ireturn, 1) := by decide +kernel
theorem dX3_hasPlansOf_27 : decode cX3_hasPlansOf 27 = .ok (.iinc 2 1, 3) := by decide +kernel
theorem dX3_hasPlansOf_30 : decode cX3_hasPlansOf 30 = .ok (.goto (-28), 3) := by decide +kernel
theorem dX3_hasPlansOf_33 : decode cX3_hasPlansOf 33 = .ok (.iconst 1, 1) := by decide +kernel
theorem dX3_hasPlansOf_34 : decode cX3_hasPlansOf 34 = .ok (.ireturn, 1) := by decide +kernel
theorem dX3_goodsOfAll_0 : decode cX3_goodsOfAll 0 = .ok (.iconst 0, 1) := by decide +kernel
theorem dX3_goodsOfAll_1 : decode cX3_goodsOfAll 1 = .ok (.istore_n 1, 1) := by decide +kernel
theorem dX3_goodsOfAll_2 : decode cX3_goodsOfAll 2 = .ok (.iconst 0, 1) := by decide +kernel
theorem dX3_goodsOfAll_3 : decode cX3_goodsOfAll 3 = .ok (.istore_n 2, 1) := by decide +kernel
theorem dX3_goodsOfAll_4 : decode cX3_goodsOfAll 4 = .ok (.iload_n 2, 1) := by decide +kernel
theorem dX3_goodsOfAll_5 : decode cX3_goodsOfAll 5 = .ok (.aload_n 0, 1) := by decide +kernel
theorem dX3_goodsOfAll_6 : decode cX3_goodsOfAll 6 = .ok (.getfield 48, 3) := by decide +kernel
theorem dX3_goodsOfAll_9 : decode cX3_goodsOfAll 9 = .ok (.if_icmp .ge 18, 3) := by decide +kernel
theorem dX3_goodsOfAll_12 : decode cX3_goodsOfAll 12 = .ok (.iload_n 1, 1) := by decide +kernel
theorem dX3_goodsOfAll_13 : decode cX3_goodsOfAll 13 = .ok (.aload_n 0, 1) := by decide +kernel
theorem dX3_goodsOfAll_14 : decode cX3_goodsOfAll 14 = .ok (.getfield 27, 3) := by decide +kernel
theorem dX3_goodsOfAll_17 : decode cX3_goodsOfAll 17 = .ok (.iload_n 2, 1) := by decide +kernel
theorem dX3_goodsOfAll_18 : decode cX3_goodsOfAll 18 = .ok (.iaload, 1) := by decide +kernel
theorem dX3_goodsOfAll_19 : decode cX3_goodsOfAll 19 = .ok (.iadd, 1) := by decide +kernel
theorem dX3_goodsOfAll_20 : decode cX3_goodsOfAll 20 = .ok (.istore_n 1, 1) := by decide +kernel
theorem dX3_goodsOfAll_21 : decode cX3_goodsOfAll 21 = .ok (.iinc 2 1, 3) := by decide +kernel
theorem dX3_goodsOfAll_24 : decode cX3_goodsOfAll 24 = .ok (.goto (-20), 3) := by decide +kernel
theorem dX3_goodsOfAll_27 : decode cX3_goodsOfAll 27 = .ok (.iload_n 1, 1) := by decide +kernel
theorem dX3_goodsOfAll_28 : decode cX3_goodsOfAll 28 = .ok (.ireturn, 1) := by decide +kernel
theorem dX3_richest_0 : decode cX3_richest 0 = .ok (.iconst (-1), 1) := by decide +kernel
theorem dX3_richest_1 : decode cX3_richest 1 = .ok (.istore_n 1, 1) := by decide +kernel
theorem dX3_richest_2 : decode cX3_richest 2 = .ok (.iconst 0, 1) := by decide +kernel
theorem dX3_richest_3 : decode cX3_richest 3 = .ok (.istore_n 2, 1) := by decide +kernel
theorem dX3_richest_4 : decode cX3_richest 4 = .ok (.iload_n 2, 1) := by decide +kernel
theorem dX3_richest_5 : decode cX3_richest 5 = .ok (.aload_n 0, 1) := by decide +kernel
theorem dX3_richest_6 : decode cX3_richest 6 = .ok (.getfield 48, 3) := by decide +kernel
theorem dX3_richest_9 : decode cX3_richest 9 = .ok (.if_icmp .ge 31, 3) := by decide +kernel
theorem dX3_richest_12 : decode cX3_richest 12 = .ok (.iload_n 1, 1) := by decide +kernel
theorem dX3_richest_13 : decode cX3_richest 13 = .ok (.iconst (-1), 1) := by decide +kernel
theorem dX3_richest_14 : decode cX3_richest 14 = .ok (.if_icmp .eq 18, 3) := by decide +kernel
theorem dX3_richest_17 : decode cX3_richest 17 = .ok (.aload_n 0, 1) := by decide +kernel
theorem dX3_richest_18 : decode cX3_richest 18 = .ok (.getfield 27, 3) := by decide +kernel
theorem dX3_richest_21 : decode cX3_richest 21 = .ok (.iload_n 2, 1) := by decide +kernel
theorem dX3_richest_22 : decode cX3_richest 22 = .ok (.iaload, 1) := by decide +kernel
theorem dX3_richest_23 : decode cX3_richest 23 = .ok (.aload_n 0, 1) := by decide +kernel
theorem dX3_richest_24 : decode cX3_richest 24 = .ok (.getfield 27, 3) := by decide +kernel
theorem dX3_richest_27 : decode cX3_richest 27 = .ok (.iload_n 1, 1) := by decide +kernel
theorem dX3_richest_28 : decode cX3_richest 28 = .ok (.iaload, 1) := by decide +kernel
theorem dX3_richest_29 : decode cX3_richest 29 = .ok (.if_icmp .le 5, 3) := by decide +kernel
theorem dX3_richest_32 : decode cX3_richest 32 = .ok (.iload_n 2, 1) := by decide +kernel
theorem dX3_richest_33 : decode cX3_richest 33 = .ok (.istore_n 1, 1) := by decide +kernel
theorem dX3_richest_34 : decode cX3_richest 34 = .ok (.iinc 2 1, 3) := by decide +kernel
theorem dX3_richest_37 : decode cX3_richest 37 = .ok (.goto (-33), 3) := by decide +kernel
theorem dX3_richest_40 : decode cX3_richest 40 = .ok (.iload_n 1, 1) := by decide +kernel
theorem dX3_richest_41 : decode cX3_richest 41 = .ok (.ireturn, 1) := by decide +kernel
theorem dX3_fullSpots_0 : decode cX3_fullSpots 0 = .ok (.iconst 0, 1) := by decide +kernel
theorem dX3_fullSpots_1 : decode cX3_fullSpots 1 = .ok (.istore_n 1, 1) := by decide +kernel
theorem dX3_fullSpots_2 : decode cX3_fullSpots 2 = .ok (.iconst 0, 1) := by decide +kernel
theorem dX3_fullSpots_3 : decode cX3_fullSpots 3 = .ok (.istore_n 2, 1) := by decide +kernel
theorem dX3_fullSpots_4 : decode cX3_fullSpots 4 = .ok (.iload_n 2, 1) := by decide +kernel
theorem dX3_fullSpots_5 : decode cX3_fullSpots 5 = .ok (.bipush 10, 2) := by decide +kernel
theorem dX3_fullSpots_7 : decode cX3_fullSpots 7 = .ok (.if_icmp .ge 27, 3) := by decide +kernel
theorem dX3_fullSpots_10 : decode cX3_fullSpots 10 = .ok (.iload_n 1, 1) := by decide +kernel
theorem dX3_fullSpots_11 : decode cX3_fullSpots 11 = .ok (.aload_n 0, 1) := by decide +kernel
theorem dX3_fullSpots_12 : decode cX3_fullSpots 12 = .ok (.getfield 30, 3) := by decide +kernel
theorem dX3_fullSpots_15 : decode cX3_fullSpots 15 = .ok (.iload_n 2, 1) := by decide +kernel
theorem dX3_fullSpots_16 : decode cX3_fullSpots 16 = .ok (.iaload, 1) := by decide +kernel
theorem dX3_fullSpots_17 : decode cX3_fullSpots 17 = .ok (.iconst (-1), 1) := by decide +kernel
theorem dX3_fullSpots_18 : decode cX3_fullSpots 18 = .ok (.if_icmp .eq 7, 3) := by decide +kernel
theorem dX3_fullSpots_21 : decode cX3_fullSpots 21 = .ok (.iconst 1, 1) := by decide +kernel
theorem dX3_fullSpots_22 : decode cX3_fullSpots 22 = .ok (.goto 4, 3) := by decide +kernel
theorem dX3_fullSpots_25 : decode cX3_fullSpots 25 = .ok (.iconst 0, 1) := by decide +kernel
theorem dX3_fullSpots_26 : decode cX3_fullSpots 26 = .ok (.iadd, 1) := by decide +kernel
theorem dX3_fullSpots_27 : decode cX3_fullSpots 27 = .ok (.istore_n 1, 1) := by decide +kernel
theorem dX3_fullSpots_28 : decode cX3_fullSpots 28 = .ok (.iinc 2 1, 3) := by decide +kernel
theorem dX3_fullSpots_31 : decode cX3_fullSpots 31 = .ok (.goto (-27), 3) := by decide +kernel
theorem dX3_fullSpots_34 : decode cX3_fullSpots 34 = .ok (.iload_n 1, 1) := by decide +kernel
theorem dX3_fullSpots_35 : decode cX3_fullSpots 35 = .ok (.ireturn, 1) := by decide +kernel
theorem dX3_nextDraw_0 : decode cX3_nextDraw 0 = .ok (.aload_n 0, 1) := by decide +kernel
theorem dX3_nextDraw_1 : decode cX3_nextDraw 1 = .ok (.aload_n 0, 1) := by decide +kernel
theorem dX3_nextDraw_2 : decode cX3_nextDraw 2 = .ok (.getfield 55, 3) := by decide +kernel
theorem dX3_nextDraw_5 : decode cX3_nextDraw 5 = .ok (.ldc 107, 2) := by decide +kernel
theorem dX3_nextDraw_7 : decode cX3_nextDraw 7 = .ok (.imul, 1) := by decide +kernel
theorem dX3_nextDraw_8 : decode cX3_nextDraw 8 = .ok (.sipush 12345, 3) := by decide +kernel
theorem dX3_nextDraw_11 : decode cX3_nextDraw 11 = .ok (.iadd, 1) := by decide +kernel
theorem dX3_nextDraw_12 : decode cX3_nextDraw 12 = .ok (.putfield 55, 3) := by decide +kernel
theorem dX3_nextDraw_15 : decode cX3_nextDraw 15 = .ok (.aload_n 0, 1) := by decide +kernel
theorem dX3_nextDraw_16 : decode cX3_nextDraw 16 = .ok (.getfield 55, 3) := by decide +kernel
theorem dX3_nextDraw_19 : decode cX3_nextDraw 19 = .ok (.bipush 8, 2) := by decide +kernel
theorem dX3_nextDraw_21 : decode cX3_nextDraw 21 = .ok (.iushr, 1) := by decide +kernel
theorem dX3_nextDraw_22 : decode cX3_nextDraw 22 = .ok (.ireturn, 1) := by decide +kernel
set_option maxRecDepth 20000 in
theorem ggX4_init_X3_init : GoodIn wsX4_init wsX3_init := goodIn_r _ [23, 24, 2, 3, 18, 25, 26, 27, 28, 29, 30, 31, 32, 33, 34, 35, 36, 37, 38, 39, 40, 41, 60, 61, 62, 63, 64, 65, 66, 67, 68, 69, 70, 71, 72] (by decide +kernel) (by decide +kernel)
set_option maxRecDepth 20000 in
theorem gX4_init_X3_init : GoodIn wsX4_init (wsX3_init) := ggX4_init_X3_init
set_option maxRecDepth 20000 in
theorem ggX4_init_X2_init : GoodIn wsX4_init wsX2_init := goodIn_r _ [43, 44, 2, 3, 45, 46, 47, 48, 49, 5, 6, 50, 51, 52, 53, 18, 54, 55, 22, 23, 24, 25, 26, 27, 28, 29, 30, 31, 32, 33, 34, 35, 36, 37, 38, 39, 40, 41, 87, 88, 89, 90, 91, 92, 80, 81, 82, 83, 60, 61, 62, 63, 64, 65, 66, 67, 68, 69, 70, 71, 72] (by decide +kernel) (by decide +kernel)
set_option maxRecDepth 20000 in
theorem gX4_init_X2_init_n24 : GoodIn wsX4_init (wsX2_init) := ggX4_init_X2_init
set_option maxRecDepth 20000 in
theorem ggX4_init_X0_init : GoodIn wsX4_init wsX0_init := goodIn_r _ [57, 58, 2, 3, 18, 59, 84, 85, 86] (by decide +kernel) (by decide +kernel)
set_option maxRecDepth 20000 in
theorem gX4_init_X0_init_n35 : GoodIn wsX4_init (wsX0_init) := ggX4_init_X0_init
