theorem dX5_init_0 : decode cX5_init 0 = .ok (.aload_n 0, 1) := by decide +kernel
theorem dX5_init_1 : decode cX5_init 1 = .ok (.invokespecial 1, 3) := by decide +kernel
theorem dX5_init_4 : decode cX5_init 4 = .ok (.aload_n 0, 1) := by decide +kernel
theorem dX5_init_5 : decode cX5_init 5 = .ok (.bipush 61, 2) := by decide +kernel
theorem dX5_init_7 : decode cX5_init 7 = .ok (.newarray .int, 2) := by decide +kernel
theorem dX5_init_9 : decode cX5_init 9 = .ok (.putfield 9, 3) := by decide +kernel
theorem dX5_init_12 : decode cX5_init 12 = .ok (.aload_n 0, 1) := by decide +kernel
theorem dX5_init_13 : decode cX5_init 13 = .ok (.bipush 61, 2) := by decide +kernel
theorem dX5_init_15 : decode cX5_init 15 = .ok (.newarray .int, 2) := by decide +kernel
theorem dX5_init_17 : decode cX5_init 17 = .ok (.putfield 13, 3) := by decide +kernel
theorem dX5_init_20 : decode cX5_init 20 = .ok (.aload_n 0, 1) := by decide +kernel
theorem dX5_init_21 : decode cX5_init 21 = .ok (.bipush 61, 2) := by decide +kernel
theorem dX5_init_23 : decode cX5_init 23 = .ok (.newarray .int, 2) := by decide +kernel
theorem dX5_init_25 : decode cX5_init 25 = .ok (.putfield 16, 3) := by decide +kernel
theorem dX5_init_28 : decode cX5_init 28 = .ok (.aload_n 0, 1) := by decide +kernel
theorem dX5_init_29 : decode cX5_init 29 = .ok (.bipush 8, 2) := by decide +kernel
theorem dX5_init_31 : decode cX5_init 31 = .ok (.newarray .int, 2) := by decide +kernel
theorem dX5_init_33 : decode cX5_init 33 = .ok (.putfield 19, 3) := by decide +kernel
theorem dX5_init_36 : decode cX5_init 36 = .ok (.aload_n 0, 1) := by decide +kernel
theorem dX5_init_37 : decode cX5_init 37 = .ok (.bipush 8, 2) := by decide +kernel
theorem dX5_init_39 : decode cX5_init 39 = .ok (.newarray .int, 2) := by decide +kernel
theorem dX5_init_41 : decode cX5_init 41 = .ok (.putfield 22, 3) := by decide +kernel
theorem dX5_init_44 : decode cX5_init 44 = .ok (.aload_n 0, 1) := by decide +kernel
theorem dX5_init_45 : decode cX5_init 45 = .ok (.bipush 8, 2) := by decide +kernel
theorem dX5_init_47 : decode cX5_init 47 = .ok (.newarray .int, 2) := by decide +kernel
theorem dX5_init_49 : decode cX5_init 49 = .ok (.putfield 25, 3) := by decide +kernel
theorem dX5_init_52 : decode cX5_init 52 = .ok (.aload_n 0, 1) := by decide +kernel
theorem dX5_init_53 : decode cX5_init 53 = .ok (.iconst (-1), 1) := by decide +kernel
theorem dX5_init_54 : decode cX5_init 54 = .ok (.putfield 28, 3) := by decide +kernel
theorem dX5_init_57 : decode cX5_init 57 = .ok (.aload_n 0, 1) := by decide +kernel
theorem dX5_init_58 : decode cX5_init 58 = .ok (.bipush 120, 2) := by decide +kernel
theorem dX5_init_60 : decode cX5_init 60 = .ok (.newarray .int, 2) := by decide +kernel
theorem dX5_init_62 : decode cX5_init 62 = .ok (.putfield 32, 3) := by decide +kernel
theorem dX5_init_65 : decode cX5_init 65 = .ok (.aload_n 0, 1) := by decide +kernel
theorem dX5_init_66 : decode cX5_init 66 = .ok (.bipush 7, 2) := by decide +kernel
theorem dX5_init_68 : decode cX5_init 68 = .ok (.anewarray 35, 3) := by decide +kernel
theorem dX5_init_71 : decode cX5_init 71 = .ok (.dup, 1) := by decide +kernel
theorem dX5_init_72 : decode cX5_init 72 = .ok (.iconst 0, 1) := by decide +kernel
theorem dX5_init_73 : decode cX5_init 73 = .ok (.ldc 37, 2) := by decide +kernel
theorem dX5_init_75 : decode cX5_init 75 = .ok (.aastore, 1) := by decide +kernel
theorem dX5_init_76 : decode cX5_init 76 = .ok (.dup, 1) := by decide +kernel
theorem dX5_init_77 : decode cX5_init 77 = .ok (.iconst 1, 1) := by decide +kernel
theorem dX5_init_78 : decode cX5_init 78 = .ok (.ldc 39, 2) := by decide +kernel
theorem dX5_init_80 : decode cX5_init 80 = .ok (.aastore, 1) := by decide +kernel
theorem dX5_init_81 : decode cX5_init 81 = .ok (.dup, 1) := by decide +kernel
theorem dX5_init_82 : decode cX5_init 82 = .ok (.iconst 2, 1) := by decide +kernel
theorem dX5_init_83 : decode cX5_init 83 = .ok (.ldc 41, 2) := by decide +kernel
theorem dX5_init_85 : decode cX5_init 85 = .ok (.aastore, 1) := by decide +kernel
theorem dX5_init_86 : decode cX5_init 86 = .ok (.dup, 1) := by decide +kernel
theorem dX5_init_87 : decode cX5_init 87 = .ok (.iconst 3, 1) := by decide +kernel
theorem dX5_init_88 : decode cX5_init 88 = .ok (.ldc 43, 2) := by decide +kernel
theorem dX5_init_90 : decode cX5_init 90 = .ok (.aastore, 1) := by decide +kernel
theorem dX5_init_91 : decode cX5_init 91 = .ok (.dup, 1) := by decide +kernel
theorem dX5_init_92 : decode cX5_init 92 = .ok (.iconst 4, 1) := by decide +kernel
theorem dX5_init_93 : decode cX5_init 93 = .ok (.ldc 45, 2) := by decide +kernel
theorem dX5_init_95 : decode cX5_init 95 = .ok (.aastore, 1) := by decide +kernel
theorem dX5_init_96 : decode cX5_init 96 = .ok (.dup, 1) := by decide +kernel
theorem dX5_init_97 : decode cX5_init 97 = .ok (.iconst 5, 1) := by decide +kernel
theorem dX5_init_98 : decode cX5_init 98 = .ok (.ldc 47, 2) := by decide +kernel
theorem dX5_init_100 : decode cX5_init 100 = .ok (.aastore, 1) := by decide +kernel
theorem dX5_init_101 : decode cX5_init 101 = .ok (.dup, 1) := by decide +kernel
theorem dX5_init_102 : decode cX5_init 102 = .ok (.bipush 6, 2) := by decide +kernel
theorem dX5_init_104 : decode cX5_init 104 = .ok (.ldc 49, 2) := by decide +kernel
theorem dX5_init_106 : decode cX5_init 106 = .ok (.aastore, 1) := by decide +kernel
theorem dX5_init_107 : decode cX5_init 107 = .ok (.putfield 51, 3) := by decide +kernel
theorem dX5_init_110 : decode cX5_init 110 = .ok (.aload_n 0, 1) := by decide +kernel
theorem dX5_init_111 : decode cX5_init 111 = .ok (.sipush 480, 3) := by decide +kernel
theorem dX5_init_114 : decode cX5_init 114 = .ok (.newarray .int, 2) := by decide +kernel
theorem dX5_init_116 : decode cX5_init 116 = .ok (.putfield 55, 3) := by decide +kernel
theorem dX5_init_119 : decode cX5_init 119 = .ok (.aload_n 0, 1) := by decide +kernel
theorem dX5_init_120 : decode cX5_init 120 = .ok (.iconst 4, 1) := by decide +kernel
theorem dX5_init_121 : decode cX5_init 121 = .ok (.newarray .int, 2) := by decide +kernel
theorem dX5_init_123 : decode cX5_init 123 = .ok (.putfield 58, 3) := by decide +kernel
theorem dX5_init_126 : decode cX5_init 126 = .ok (.aload_n 0, 1) := by decide +kernel
theorem dX5_init_127 : decode cX5_init 127 = .ok (.iconst 4, 1) := by decide +kernel
theorem dX5_init_128 : decode cX5_init 128 = .ok (.newarray .int, 2) := by decide +kernel
theorem dX5_init_130 : decode cX5_init 130 = .ok (.putfield 61, 3) := by decide +kernel
theorem dX5_init_133 : decode cX5_init 133 = .ok (.aload_n 0, 1) := by decide +kernel
theorem dX5_init_134 : decode cX5_init 134 = .ok (.sipush 160, 3) := by decide +kernel
theorem dX5_init_137 : decode cX5_init 137 = .ok (.newarray .int, 2) := by decide +kernel
theorem dX5_init_139 : decode cX5_init 139 = .ok (.putfield 64, 3) := by decide +kernel
theorem dX5_init_142 : decode cX5_init 142 = .ok (.aload_n 0, 1) := by decide +kernel
theorem dX5_init_143 : decode cX5_init 143 = .ok (.bipush 40, 2) := by decide +kernel
theorem dX5_init_145 : decode cX5_init 145 = .ok (.newarray .int, 2) := by decide +kernel
theorem dX5_init_147 : decode cX5_init 147 = .ok (.putfield 67, 3) := by decide +kernel
theorem dX5_init_150 : decode cX5_init 150 = .ok (.aload_n 0, 1) := by decide +kernel
theorem dX5_init_151 : decode cX5_init 151 = .ok (.getfield 9, 3) := by decide +kernel
theorem dX5_init_154 : decode cX5_init 154 = .ok (.iconst 2, 1) := by decide +kernel
theorem dX5_init_155 : decode cX5_init 155 = .ok (.iconst 1, 1) := by decide +kernel
theorem dX5_init_156 : decode cX5_init 156 = .ok (.iastore, 1) := by decide +kernel
theorem dX5_init_157 : decode cX5_init 157 = .ok (.iconst 0, 1) := by decide +kernel
theorem dX5_init_158 : decode cX5_init 158 = .ok (.istore_n 1, 1) := by decide +kernel
theorem dX5_init_159 : decode cX5_init 159 = .ok (.iload_n 1, 1) := by decide +kernel
theorem dX5_init_160 : decode cX5_init 160 = .ok (.bipush 8, 2) := by decide +kernel
theorem dX5_init_162 : decode cX5_init 162 = .ok (.if_icmp .ge 20, 3) := by decide +kernel
theorem dX5_init_165 : decode cX5_init 165 = .ok (.aload_n 0, 1) := by decide +kernel
theorem dX5_init_166 : decode cX5_init 166 = .ok (.getfield 9, 3) := by decide +kernel
theorem dX5_init_169 : decode cX5_init 169 = .ok (.bipush 13, 2) := by decide +kernel
theorem dX5_init_171 : decode cX5_init 171 = .ok (.iload_n 1, 1) := by decide +kernel
theorem dX5_init_172 : decode cX5_init 172 = .ok (.iadd, 1) := by decide +kernel
theorem dX5_init_173 : decode cX5_init 173 = .ok (.bipush 10, 2) := by decide +kernel
theorem dX5_init_175 : decode cX5_init 175 = .ok (.iastore, 1) := by decide +kernel
theorem dX5_init_176 : decode cX5_init 176 = .ok (.iinc 1 1, 3) := by decide +kernel
theorem dX5_init_179 : decode cX5_init 179 = .ok (.goto (-20), 3) := by decide +kernel
theorem dX5_init_182 : decode cX5_init 182 = .ok (.iconst 0, 1) := by decide +kernel
theorem dX5_init_183 : decode cX5_init 183 = .ok (.istore_n 1, 1) := by decide +kernel
theorem dX5_init_184 : decode cX5_init 184 = .ok (.iload_n 1, 1) := by decide +kernel
theorem dX5_init_185 : decode cX5_init 185 = .ok (.bipush 10, 2) := by decide +kernel
theorem dX5_init_187 : decode cX5_init 187 = .ok (.if_icmp .ge 18, 3) := by decide +kernel
theorem dX5_init_190 : decode cX5_init 190 = .ok (.aload_n 0, 1) := by decide +kernel
theorem dX5_init_191 : decode cX5_init 191 = .ok (.getfield 9, 3) := by decide +kernel
theorem dX5_init_194 : decode cX5_init 194 = .ok (.iconst 3, 1) := by decide +kernel
theorem dX5_init_195 : decode cX5_init 195 = .ok (.iload_n 1, 1) := by decide +kernel
theorem dX5_init_196 : decode cX5_init 196 = .ok (.iadd, 1) := by decide +kernel
theorem dX5_init_197 : decode cX5_init 197 = .ok (.iconst (-1), 1) := by decide +kernel
theorem dX5_init_198 : decode cX5_init 198 = .ok (.iastore, 1) := by decide +kernel
theorem dX5_init_199 : decode cX5_init 199 = .ok (.iinc 1 1, 3) := by decide +kernel
theorem dX5_init_202 : decode cX5_init 202 = .ok (.goto (-18), 3) := by decide +kernel
theorem dX5_init_205 : decode cX5_init 205 = .ok (.return_, 1) := by decide +kernel
theorem dX5_finding_0 : decode cX5_finding 0 = .ok (.aload_n 0, 1) := by decide +kernel
theorem dX5_finding_1 : decode cX5_finding 1 = .ok (.getfield 19, 3) := by decide +kernel
theorem dX5_finding_4 : decode cX5_finding 4 = .ok (.ldc 70, 2) := by decide +kernel
theorem dX5_finding_6 : decode cX5_finding 6 = .ok (.iload_n 1, 1) := by decide +kernel
theorem dX5_finding_7 : decode cX5_finding 7 = .ok (.isub, 1) := by decide +kernel
theorem dX5_finding_8 : decode cX5_finding 8 = .ok (.iconst 1, 1) := by decide +kernel
theorem dX5_finding_9 : decode cX5_finding 9 = .ok (.iadd, 1) := by decide +kernel
theorem dX5_finding_10 : decode cX5_finding 10 = .ok (.dup2, 1) := by decide +kernel
theorem dX5_finding_11 : decode cX5_finding 11 = .ok (.iaload, 1) := by decide +kernel
theorem dX5_finding_12 : decode cX5_finding 12 = .ok (.iconst 1, 1) := by decide +kernel
theorem dX5_finding_13 : decode cX5_finding 13 = .ok (.iadd, 1) := by decide +kernel
theorem dX5_finding_14 : decode cX5_finding 14 = .ok (.iastore, 1) := by decide +kernel
theorem dX5_finding_15 : decode cX5_finding 15 = .ok (.aload_n 0, 1) := by decide +kernel
theorem dX5_finding_16 : decode cX5_finding 16 = .ok (.getfield 19, 3) := by decide +kernel
theorem dX5_finding_19 : decode cX5_finding 19 = .ok (.iconst 0, 1) := by decide +kernel
theorem dX5_finding_20 : decode cX5_finding 20 = .ok (.dup2, 1) := by decide +kernel
theorem dX5_finding_21 : decode cX5_finding 21 = .ok (.iaload, 1) := by decide +kernel
theorem dX5_finding_22 : decode cX5_finding 22 = .ok (.iconst 1, 1) := by decide +kernel
theorem dX5_finding_23 : decode cX5_finding 23 = .ok (.iadd, 1) := by decide +kernel
theorem dX5_finding_24 : decode cX5_finding 24 = .ok (.iastore, 1) := by decide +kernel
theorem dX5_finding_25 : decode cX5_finding 25 = .ok (.iload_n 1, 1) := by decide +kernel
theorem dX5_finding_26 : decode cX5_finding 26 = .ok (.ireturn, 1) := by decide +kernel
theorem dX5_within_0 : decode cX5_within 0 = .ok (.iload_n 0, 1) := by decide +kernel
theorem dX5_within_1 : decode cX5_within 1 = .ok (.iload_n 1, 1) := by decide +kernel
theorem dX5_within_2 : decode cX5_within 2 = .ok (.if_icmp .lt 12, 3) := by decide +kernel
theorem dX5_within_5 : decode cX5_within 5 = .ok (.iload_n 0, 1) := by decide +kernel
theorem dX5_within_6 : decode cX5_within 6 = .ok (.iload_n 2, 1) := by decide +kernel
theorem dX5_within_7 : decode cX5_within 7 = .ok (.if_icmp .gt 7, 3) := by decide +kernel
theorem dX5_within_10 : decode cX5_within 10 = .ok (.iconst 1, 1) := by decide +kernel
theorem dX5_within_11 : decode cX5_within 11 = .ok (.goto 4, 3) := by decide +kernel
theorem dX5_within_14 : decode cX5_within 14 = .ok (.iconst 0, 1) := by decide +kernel
theorem dX5_within_15 : decode cX5_within 15 = .ok (.ireturn, 1) := by decide +kernel
theorem dX5_become_0 : decode cX5_become 0 = .ok (.aload_n 0, 1) := by decide +kernel
theorem dX5_become_1 : decode cX5_become 1 = .ok (.getfield 9, 3) := by decide +kernel
theorem dX5_become_4 : decode cX5_become 4 = .ok (.iload_n 1, 1) := by decide +kernel
theorem dX5_become_5 : decode cX5_become 5 = .ok (.iaload, 1) := by decide +kernel
theorem dX5_become_6 : decode cX5_become 6 = .ok (.istore_n 3, 1) := by decide +kernel
theorem dX5_become_7 : decode cX5_become 7 = .ok (.aload_n 0, 1) := by decide +kernel
theorem dX5_become_8 : decode cX5_become 8 = .ok (.getfield 9, 3) := by decide +kernel
theorem dX5_become_11 : decode cX5_become 11 = .ok (.iload_n 1, 1) := by decide +kernel
theorem dX5_become_12 : decode cX5_become 12 = .ok (.iload_n 2, 1) := by decide +kernel
theorem dX5_become_13 : decode cX5_become 13 = .ok (.iastore, 1) := by decide +kernel
theorem dX5_become_14 : decode cX5_become 14 = .ok (.iload_n 3, 1) := by decide +kernel
theorem dX5_become_15 : decode cX5_become 15 = .ok (.ireturn, 1) := by decide +kernel
theorem dX5_copyRow_0 : decode cX5_copyRow 0 = .ok (.iconst 0, 1) := by decide +kernel
theorem dX5_copyRow_1 : decode cX5_copyRow 1 = .ok (.istore_n 2, 1) := by decide +kernel
theorem dX5_copyRow_2 : decode cX5_copyRow 2 = .ok (.iload_n 2, 1) := by decide +kernel
theorem dX5_copyRow_3 : decode cX5_copyRow 3 = .ok (.bipush 61, 2) := by decide +kernel
theorem dX5_copyRow_5 : decode cX5_copyRow 5 = .ok (.if_icmp .ge 15, 3) := by decide +kernel
theorem dX5_copyRow_8 : decode cX5_copyRow 8 = .ok (.aload_n 1, 1) := by decide +kernel
theorem dX5_copyRow_9 : decode cX5_copyRow 9 = .ok (.iload_n 2, 1) := by decide +kernel
theorem dX5_copyRow_10 : decode cX5_copyRow 10 = .ok (.aload_n 0, 1) := by decide +kernel
theorem dX5_copyRow_11 : decode cX5_copyRow 11 = .ok (.iload_n 2, 1) := by decide +kernel
theorem dX5_copyRow_12 : decode cX5_copyRow 12 = .ok (.iaload, 1) := by decide +kernel
theorem dX5_copyRow_13 : decode cX5_copyRow 13 = .ok (.iastore, 1) := by decide +kernel
theorem dX5_copyRow_14 : decode cX5_copyRow 14 = .ok (.iinc 2 1, 3) := by decide +kernel
theorem dX5_copyRow_17 : decode cX5_copyRow 17 = .ok (.goto (-15), 3) := by decide +kernel
theorem dX5_copyRow_20 : decode cX5_copyRow 20 = .ok (.return_, 1) := by decide +kernel
set_option maxRecDepth 20000 in
theorem ggX5_putBack_X5_copyRow : GoodIn wsX5_putBack wsX5_copyRow := goodIn_r _ [6] (by decide +kernel) (by decide +kernel)
set_option maxRecDepth 20000 in
theorem gX5_putBack_X5_copyRow : GoodIn wsX5_putBack (va_wsS RX5 71 yX5_copyRow wsX5_copyRow) := goodIn_app (goodIn_of _ (by decide +kernel)) ggX5_putBack_X5_copyRow
theorem dX5_putBack_0 : decode cX5_putBack 0 = .ok (.aload_n 0, 1) := by decide +kernel
theorem dX5_putBack_1 : decode cX5_putBack 1 = .ok (.getfield 16, 3) := by decide +kernel
theorem dX5_putBack_4 : decode cX5_putBack 4 = .ok (.aload_n 0, 1) := by decide +kernel
theorem dX5_putBack_5 : decode cX5_putBack 5 = .ok (.getfield 9, 3) := by decide +kernel
theorem dX5_putBack_8 : decode cX5_putBack 8 = .ok (.invokestatic 71, 3) := by decide +kernel
theorem dX5_putBack_11 : decode cX5_putBack 11 = .ok (.iload_n 1, 1) := by decide +kernel
theorem dX5_putBack_12 : decode cX5_putBack 12 = .ok (.ireturn, 1) := by decide +kernel
set_option maxRecDepth 20000 in
theorem ggX5_orNone_X5_finding : GoodIn wsX5_orNone wsX5_finding := goodIn_r _ [6, 7, 8, 9, 10, 11, 12, 13, 14, 15, 16, 17, 18, 19, 20, 21, 22, 23, 24, 25, 26, 27, 28, 29, 30, 31] (by decide +kernel) (by decide +kernel)
set_option maxRecDepth 20000 in
theorem gX5_orNone_X5_finding : GoodIn wsX5_orNone (wsV RX5 76 RX5 yX5_finding wsX5_finding) := goodIn_app (goodIn_of _ (by decide +kernel)) ggX5_orNone_X5_finding
theorem dX5_orNone_0 : decode cX5_orNone 0 = .ok (.iload_n 1, 1) := by decide +kernel
theorem dX5_orNone_1 : decode cX5_orNone 1 = .ok (.ifCond .ge 12, 3) := by decide +kernel
theorem dX5_orNone_4 : decode cX5_orNone 4 = .ok (.aload_n 0, 1) := by decide +kernel
theorem dX5_orNone_5 : decode cX5_orNone 5 = .ok (.ldc 75, 2) := by decide +kernel
theorem dX5_orNone_7 : decode cX5_orNone 7 = .ok (.invokevirtual 76, 3) := by decide +kernel
theorem dX5_orNone_10 : decode cX5_orNone 10 = .ok (.goto 4, 3) := by decide +kernel
theorem dX5_orNone_13 : decode cX5_orNone 13 = .ok (.iload_n 1, 1) := by decide +kernel
theorem dX5_orNone_14 : decode cX5_orNone 14 = .ok (.ireturn, 1) := by decide +kernel
theorem dX5_has_0 : decode cX5_has 0 = .ok (.iload_n 0, 1) := by decide +kernel
theorem dX5_has_1 : decode cX5_has 1 = .ok (.iload_n 1, 1) := by decide +kernel
theorem dX5_has_2 : decode cX5_has 2 = .ok (.ishr, 1) := by decide +kernel
theorem dX5_has_3 : decode cX5_has 3 = .ok (.iconst 1, 1) := by decide +kernel
theorem dX5_has_4 : decode cX5_has 4 = .ok (.iand, 1) := by decide +kernel
theorem dX5_has_5 : decode cX5_has 5 = .ok (.iconst 1, 1) := by decide +kernel
theorem dX5_has_6 : decode cX5_has 6 = .ok (.if_icmp .ne 7, 3) := by decide +kernel
theorem dX5_has_9 : decode cX5_has 9 = .ok (.iconst 1, 1) := by decide +kernel
theorem dX5_has_10 : decode cX5_has 10 = .ok (.goto 4, 3) := by decide +kernel
theorem dX5_has_13 : decode cX5_has 13 = .ok (.iconst 0, 1) := by decide +kernel
theorem dX5_has_14 : decode cX5_has 14 = .ok (.ireturn, 1) := by decide +kernel
theorem dX5_bits_0 : decode cX5_bits 0 = .ok (.iconst 0, 1) := by decide +kernel
theorem dX5_bits_1 : decode cX5_bits 1 = .ok (.istore_n 1, 1) := by decide +kernel
theorem dX5_bits_2 : decode cX5_bits 2 = .ok (.iload_n 0, 1) := by decide +kernel
theorem dX5_bits_3 : decode cX5_bits 3 = .ok (.istore_n 2, 1) := by decide +kernel
theorem dX5_bits_4 : decode cX5_bits 4 = .ok (.iload_n 2, 1) := by decide +kernel
theorem dX5_bits_5 : decode cX5_bits 5 = .ok (.ifCond .eq 15, 3) := by decide +kernel
theorem dX5_bits_8 : decode cX5_bits 8 = .ok (.iinc 1 1, 3) := by decide +kernel
theorem dX5_bits_11 : decode cX5_bits 11 = .ok (.iload_n 2, 1) := by decide +kernel
theorem dX5_bits_12 : decode cX5_bits 12 = .ok (.iload_n 2, 1) := by decide +kernel
theorem dX5_bits_13 : decode cX5_bits 13 = .ok (.iconst 1, 1) := by decide +kernel
theorem dX5_bits_14 : decode cX5_bits 14 = .ok (.isub, 1) := by decide +kernel
theorem dX5_bits_15 : decode cX5_bits 15 = .ok (.iand, 1) := by decide +kernel
theorem dX5_bits_16 : decode cX5_bits 16 = .ok (.istore_n 2, 1) := by decide +kernel
theorem dX5_bits_17 : decode cX5_bits 17 = .ok (.goto (-13), 3) := by decide +kernel
theorem dX5_bits_20 : decode cX5_bits 20 = .ok (.iload_n 1, 1) := by decide +kernel
theorem dX5_bits_21 : decode cX5_bits 21 = .ok (.ireturn, 1) := by decide +kernel
set_option maxRecDepth 20000 in
theorem ggX5_isPlace_X5_within : GoodIn wsX5_isPlace wsX5_within := goodIn_r _ [4] (by decide +kernel) (by decide +kernel)
set_option maxRecDepth 20000 in
theorem gX5_isPlace_X5_within : GoodIn wsX5_isPlace (va_wsS RX5 80 yX5_within wsX5_within) := goodIn_app (goodIn_of _ (by decide +kernel)) ggX5_isPlace_X5_within
theorem dX5_isPlace_0 : decode cX5_isPlace 0 = .ok (.iload_n 0, 1) := by decide +kernel
theorem dX5_isPlace_1 : decode cX5_isPlace 1 = .ok (.iconst 0, 1) := by decide +kernel
theorem dX5_isPlace_2 : decode cX5_isPlace 2 = .ok (.bipush 7, 2) := by decide +kernel
theorem dX5_isPlace_4 : decode cX5_isPlace 4 = .ok (.invokestatic 80, 3) := by decide +kernel
theorem dX5_isPlace_7 : decode cX5_isPlace 7 = .ok (.ireturn, 1) := by decide +kernel
set_option maxRecDepth 20000 in
theorem ggX5_isPrize_X5_within : GoodIn wsX5_isPrize wsX5_within := goodIn_r _ [4] (by decide +kernel) (by decide +kernel)
set_option maxRecDepth 20000 in
theorem gX5_isPrize_X5_within : GoodIn wsX5_isPrize (va_wsS RX5 80 yX5_within wsX5_within) := goodIn_app (goodIn_of _ (by decide +kernel)) ggX5_isPrize_X5_within
theorem dX5_isPrize_0 : decode cX5_isPrize 0 = .ok (.iload_n 0, 1) := by decide +kernel
theorem dX5_isPrize_1 : decode cX5_isPrize 1 = .ok (.iconst 0, 1) := by decide +kernel
theorem dX5_isPrize_2 : decode cX5_isPrize 2 = .ok (.sipush 9999, 3) := by decide +kernel
theorem dX5_isPrize_5 : decode cX5_isPrize 5 = .ok (.invokestatic 80, 3) := by decide +kernel
theorem dX5_isPrize_8 : decode cX5_isPrize 8 = .ok (.ireturn, 1) := by decide +kernel
set_option maxRecDepth 20000 in
theorem ggX5_isPerson_X5_within : GoodIn wsX5_isPerson wsX5_within := goodIn_r _ [5] (by decide +kernel) (by decide +kernel)
set_option maxRecDepth 20000 in
theorem gX5_isPerson_X5_within : GoodIn wsX5_isPerson (va_wsS RX5 80 yX5_within wsX5_within) := goodIn_app (goodIn_of _ (by decide +kernel)) ggX5_isPerson_X5_within
theorem dX5_isPerson_0 : decode cX5_isPerson 0 = .ok (.iload_n 1, 1) := by decide +kernel
theorem dX5_isPerson_1 : decode cX5_isPerson 1 = .ok (.iconst 0, 1) := by decide +kernel
theorem dX5_isPerson_2 : decode cX5_isPerson 2 = .ok (.aload_n 0, 1) := by decide +kernel
theorem dX5_isPerson_3 : decode cX5_isPerson 3 = .ok (.getfield 9, 3) := by decide +kernel
theorem dX5_isPerson_6 : decode cX5_isPerson 6 = .ok (.iconst 1, 1) := by decide +kernel
theorem dX5_isPerson_7 : decode cX5_isPerson 7 = .ok (.iaload, 1) := by decide +kernel
theorem dX5_isPerson_8 : decode cX5_isPerson 8 = .ok (.iconst 1, 1) := by decide +kernel
theorem dX5_isPerson_9 : decode cX5_isPerson 9 = .ok (.isub, 1) := by decide +kernel
theorem dX5_isPerson_10 : decode cX5_isPerson 10 = .ok (.invokestatic 80, 3) := by decide +kernel
theorem dX5_isPerson_13 : decode cX5_isPerson 13 = .ok (.ireturn, 1) := by decide +kernel
set_option maxRecDepth 20000 in
theorem ggX5_isKind_X5_within : GoodIn wsX5_isKind wsX5_within := goodIn_r _ [4] (by decide +kernel) (by decide +kernel)
set_option maxRecDepth 20000 in
theorem gX5_isKind_X5_within : GoodIn wsX5_isKind (va_wsS RX5 80 yX5_within wsX5_within) := goodIn_app (goodIn_of _ (by decide +kernel)) ggX5_isKind_X5_within
theorem dX5_isKind_0 : decode cX5_isKind 0 = .ok (.iload_n 0, 1) := by decide +kernel
theorem dX5_isKind_1 : decode cX5_isKind 1 = .ok (.iconst 0, 1) := by decide +kernel
theorem dX5_isKind_2 : decode cX5_isKind 2 = .ok (.bipush 6, 2) := by decide +kernel
theorem dX5_isKind_4 : decode cX5_isKind 4 = .ok (.invokestatic 80, 3) := by decide +kernel
theorem dX5_isKind_7 : decode cX5_isKind 7 = .ok (.ireturn, 1) := by decide +kernel
theorem dX5_at_0 : decode cX5_at 0 = .ok (.bipush 21, 2) := by decide +kernel
theorem dX5_at_2 : decode cX5_at 2 = .ok (.iconst 5, 1) := by decide +kernel
theorem dX5_at_3 : decode cX5_at 3 = .ok (.iload_n 0, 1) := by decide +kernel
theorem dX5_at_4 : decode cX5_at 4 = .ok (.imul, 1) := by decide +kernel
theorem dX5_at_5 : decode cX5_at 5 = .ok (.iadd, 1) := by decide +kernel
theorem dX5_at_6 : decode cX5_at 6 = .ok (.iload_n 1, 1) := by decide +kernel
theorem dX5_at_7 : decode cX5_at 7 = .ok (.iadd, 1) := by decide +kernel
theorem dX5_at_8 : decode cX5_at 8 = .ok (.ireturn, 1) := by decide +kernel
set_option maxRecDepth 20000 in
theorem ggX5_personIs_X5_at : GoodIn wsX5_personIs wsX5_at := goodIn_r _ [5] (by decide +kernel) (by decide +kernel)
set_option maxRecDepth 20000 in
theorem gX5_personIs_X5_at : GoodIn wsX5_personIs (va_wsS RX5 84 yX5_at wsX5_at) := goodIn_app (goodIn_of _ (by decide +kernel)) ggX5_personIs_X5_at
theorem dX5_personIs_0 : decode cX5_personIs 0 = .ok (.aload_n 0, 1) := by decide +kernel
theorem dX5_personIs_1 : decode cX5_personIs 1 = .ok (.getfield 9, 3) := by decide +kernel
theorem dX5_personIs_4 : decode cX5_personIs 4 = .ok (.iload_n 1, 1) := by decide +kernel
theorem dX5_personIs_5 : decode cX5_personIs 5 = .ok (.iload_n 2, 1) := by decide +kernel
theorem dX5_personIs_6 : decode cX5_personIs 6 = .ok (.invokestatic 84, 3) := by decide +kernel
theorem dX5_personIs_9 : decode cX5_personIs 9 = .ok (.iaload, 1) := by decide +kernel
theorem dX5_personIs_10 : decode cX5_personIs 10 = .ok (.ireturn, 1) := by decide +kernel
set_option maxRecDepth 20000 in
theorem ggX5_prize_X5_isPlace : GoodIn wsX5_prize wsX5_isPlace := goodIn_r _ [5, 6, 7, 4, 8] (by decide +kernel) (by decide +kernel)
set_option maxRecDepth 20000 in
theorem gX5_prize_X5_isPlace : GoodIn wsX5_prize (va_wsS RX5 88 yX5_isPlace wsX5_isPlace) := goodIn_app (goodIn_of _ (by decide +kernel)) ggX5_prize_X5_isPlace
set_option maxRecDepth 20000 in
theorem ggX5_prize_X5_isPrize : GoodIn wsX5_prize wsX5_isPrize := goodIn_r _ [11, 6, 7, 4, 8] (by decide +kernel) (by decide +kernel)
set_option maxRecDepth 20000 in
theorem gX5_prize_X5_isPrize : GoodIn wsX5_prize (va_wsS RX5 92 yX5_isPrize wsX5_isPrize) := goodIn_app (goodIn_of _ (by decide +kernel)) ggX5_prize_X5_isPrize
set_option maxRecDepth 20000 in
theorem ggX5_prize_X5_become : GoodIn wsX5_prize wsX5_become := goodIn_r _ [15, 16, 22, 23, 24, 25, 26, 27, 28, 29, 30, 31, 32, 33, 34, 35, 36, 37, 38, 39, 40, 41, 42, 43, 44] (by decide +kernel) (by decide +kernel)
set_option maxRecDepth 20000 in
theorem gX5_prize_X5_become : GoodIn wsX5_prize (wsV RX5 95 RX5 yX5_become wsX5_become) := goodIn_app (goodIn_of _ (by decide +kernel)) ggX5_prize_X5_become
set_option maxRecDepth 20000 in
theorem ggX5_prize_X5_finding : GoodIn wsX5_prize wsX5_finding := goodIn_r _ [20, 21, 1, 22, 23, 24, 25, 26, 27, 28, 29, 30, 31, 32, 33, 34, 35, 36, 37, 38, 39, 40, 41, 42, 43, 44] (by decide +kernel) (by decide +kernel)
set_option maxRecDepth 20000 in
theorem gX5_prize_X5_finding : GoodIn wsX5_prize (wsV RX5 76 RX5 yX5_finding wsX5_finding) := goodIn_app (goodIn_of _ (by decide +kernel)) ggX5_prize_X5_finding
theorem dX5_prize_0 : decode cX5_prize 0 = .ok (.iload_n 1, 1) := by decide +kernel
theorem dX5_prize_1 : decode cX5_prize 1 = .ok (.invokestatic 88, 3) := by decide +kernel
theorem dX5_prize_4 : decode cX5_prize 4 = .ok (.ifCond .eq 22, 3) := by decide +kernel
theorem dX5_prize_7 : decode cX5_prize 7 = .ok (.iload_n 2, 1) := by decide +kernel
theorem dX5_prize_8 : decode cX5_prize 8 = .ok (.invokestatic 92, 3) := by decide +kernel
theorem dX5_prize_11 : decode cX5_prize 11 = .ok (.ifCond .eq 15, 3) := by decide +kernel
theorem dX5_prize_14 : decode cX5_prize 14 = .ok (.aload_n 0, 1) := by decide +kernel
theorem dX5_prize_15 : decode cX5_prize 15 = .ok (.bipush 13, 2) := by decide +kernel
theorem dX5_prize_17 : decode cX5_prize 17 = .ok (.iload_n 1, 1) := by decide +kernel
theorem dX5_prize_18 : decode cX5_prize 18 = .ok (.iadd, 1) := by decide +kernel
theorem dX5_prize_19 : decode cX5_prize 19 = .ok (.iload_n 2, 1) := by decide +kernel
theorem dX5_prize_20 : decode cX5_prize 20 = .ok (.invokevirtual 95, 3) := by decide +kernel
theorem dX5_prize_23 : decode cX5_prize 23 = .ok (.goto 9, 3) := by decide +kernel
theorem dX5_prize_26 : decode cX5_prize 26 = .ok (.aload_n 0, 1) := by decide +kernel
theorem dX5_prize_27 : decode cX5_prize 27 = .ok (.ldc 70, 2) := by decide +kernel
theorem dX5_prize_29 : decode cX5_prize 29 = .ok (.invokevirtual 76, 3) := by decide +kernel
theorem dX5_prize_32 : decode cX5_prize 32 = .ok (.ireturn, 1) := by decide +kernel
set_option maxRecDepth 20000 in
theorem ggX5_comes_X5_at : GoodIn wsX5_comes wsX5_at := goodIn_r _ [5] (by decide +kernel) (by decide +kernel)
set_option maxRecDepth 20000 in
theorem gX5_comes_X5_at : GoodIn wsX5_comes (va_wsS RX5 84 yX5_at wsX5_at) := goodIn_app (goodIn_of _ (by decide +kernel)) ggX5_comes_X5_at
theorem dX5_comes_0 : decode cX5_comes 0 = .ok (.aload_n 0, 1) := by decide +kernel
theorem dX5_comes_1 : decode cX5_comes 1 = .ok (.getfield 9, 3) := by decide +kernel
theorem dX5_comes_4 : decode cX5_comes 4 = .ok (.iconst 1, 1) := by decide +kernel
theorem dX5_comes_5 : decode cX5_comes 5 = .ok (.iaload, 1) := by decide +kernel
theorem dX5_comes_6 : decode cX5_comes 6 = .ok (.istore 5, 2) := by decide +kernel
theorem dX5_comes_8 : decode cX5_comes 8 = .ok (.aload_n 0, 1) := by decide +kernel
theorem dX5_comes_9 : decode cX5_comes 9 = .ok (.getfield 9, 3) := by decide +kernel
theorem dX5_comes_12 : decode cX5_comes 12 = .ok (.iload 5, 2) := by decide +kernel
theorem dX5_comes_14 : decode cX5_comes 14 = .ok (.iconst 0, 1) := by decide +kernel
theorem dX5_comes_15 : decode cX5_comes 15 = .ok (.invokestatic 84, 3) := by decide +kernel
theorem dX5_comes_18 : decode cX5_comes 18 = .ok (.iload_n 1, 1) := by decide +kernel
theorem dX5_comes_19 : decode cX5_comes 19 = .ok (.iastore, 1) := by decide +kernel
theorem dX5_comes_20 : decode cX5_comes 20 = .ok (.aload_n 0, 1) := by decide +kernel
theorem dX5_comes_21 : decode cX5_comes 21 = .ok (.getfield 9, 3) := by decide +kernel
theorem dX5_comes_24 : decode cX5_comes 24 = .ok (.iload 5, 2) := by decide +kernel
theorem dX5_comes_26 : decode cX5_comes 26 = .ok (.iconst 1, 1) := by decide +kernel
theorem dX5_comes_27 : decode cX5_comes 27 = .ok (.invokestatic 84, 3) := by decide +kernel
theorem dX5_comes_30 : decode cX5_comes 30 = .ok (.iload_n 2, 1) := by decide +kernel
theorem dX5_comes_31 : decode cX5_comes 31 = .ok (.iastore, 1) := by decide +kernel
theorem dX5_comes_32 : decode cX5_comes 32 = .ok (.aload_n 0, 1) := by decide +kernel
theorem dX5_comes_33 : decode cX5_comes 33 = .ok (.getfield 9, 3) := by decide +kernel
theorem dX5_comes_36 : decode cX5_comes 36 = .ok (.iload 5, 2) := by decide +kernel
theorem dX5_comes_38 : decode cX5_comes 38 = .ok (.iconst 2, 1) := by decide +kernel
theorem dX5_comes_39 : decode cX5_comes 39 = .ok (.invokestatic 84, 3) := by decide +kernel
theorem dX5_comes_42 : decode cX5_comes 42 = .ok (.iload_n 3, 1) := by decide +kernel
theorem dX5_comes_43 : decode cX5_comes 43 = .ok (.iastore, 1) := by decide +kernel
theorem dX5_comes_44 : decode cX5_comes 44 = .ok (.aload_n 0, 1) := by decide +kernel
theorem dX5_comes_45 : decode cX5_comes 45 = .ok (.getfield 9, 3) := by decide +kernel
theorem dX5_comes_48 : decode cX5_comes 48 = .ok (.iload 5, 2) := by decide +kernel
theorem dX5_comes_50 : decode cX5_comes 50 = .ok (.iconst 3, 1) := by decide +kernel
theorem dX5_comes_51 : decode cX5_comes 51 = .ok (.invokestatic 84, 3) := by decide +kernel
theorem dX5_comes_54 : decode cX5_comes 54 = .ok (.iload 4, 2) := by decide +kernel
theorem dX5_comes_56 : decode cX5_comes 56 = .ok (.iastore, 1) := by decide +kernel
theorem dX5_comes_57 : decode cX5_comes 57 = .ok (.aload_n 0, 1) := by decide +kernel
theorem dX5_comes_58 : decode cX5_comes 58 = .ok (.getfield 9, 3) := by decide +kernel
theorem dX5_comes_61 : decode cX5_comes 61 = .ok (.iload 5, 2) := by decide +kernel
theorem dX5_comes_63 : decode cX5_comes 63 = .ok (.iconst 4, 1) := by decide +kernel
theorem dX5_comes_64 : decode cX5_comes 64 = .ok (.invokestatic 84, 3) := by decide +kernel
theorem dX5_comes_67 : decode cX5_comes 67 = .ok (.iconst 0, 1) := by decide +kernel
theorem dX5_comes_68 : decode cX5_comes 68 = .ok (.iastore, 1) := by decide +kernel
theorem dX5_comes_69 : decode cX5_comes 69 = .ok (.aload_n 0, 1) := by decide +kernel
theorem dX5_comes_70 : decode cX5_comes 70 = .ok (.getfield 9, 3) := by decide +kernel
theorem dX5_comes_73 : decode cX5_comes 73 = .ok (.iconst 1, 1) := by decide +kernel
theorem dX5_comes_74 : decode cX5_comes 74 = .ok (.dup2, 1) := by decide +kernel
theorem dX5_comes_75 : decode cX5_comes 75 = .ok (.iaload, 1) := by decide +kernel
theorem dX5_comes_76 : decode cX5_comes 76 = .ok (.iconst 1, 1) := by decide +kernel
theorem dX5_comes_77 : decode cX5_comes 77 = .ok (.iadd, 1) := by decide +kernel
theorem dX5_comes_78 : decode cX5_comes 78 = .ok (.iastore, 1) := by decide +kernel
theorem dX5_comes_79 : decode cX5_comes 79 = .ok (.iload 5, 2) := by decide +kernel
theorem dX5_comes_81 : decode cX5_comes 81 = .ok (.ireturn, 1) := by decide +kernel
set_option maxRecDepth 20000 in
theorem ggX5_person_X5_isKind : GoodIn wsX5_person wsX5_isKind := goodIn_r _ [7, 8, 9, 6, 10] (by decide +kernel) (by decide +kernel)
set_option maxRecDepth 20000 in
theorem gX5_person_X5_isKind : GoodIn wsX5_person (va_wsS RX5 98 yX5_isKind wsX5_isKind) := goodIn_app (goodIn_of _ (by decide +kernel)) ggX5_person_X5_isKind
set_option maxRecDepth 20000 in
theorem ggX5_person_X5_isPlace : GoodIn wsX5_person wsX5_isPlace := goodIn_r _ [13, 8, 9, 6, 10] (by decide +kernel) (by decide +kernel)
set_option maxRecDepth 20000 in
theorem gX5_person_X5_isPlace : GoodIn wsX5_person (va_wsS RX5 88 yX5_isPlace wsX5_isPlace) := goodIn_app (goodIn_of _ (by decide +kernel)) ggX5_person_X5_isPlace
set_option maxRecDepth 20000 in
theorem ggX5_person_X5_finding : GoodIn wsX5_person wsX5_finding := goodIn_r _ [17, 18, 1, 26, 27, 28, 29, 30, 31, 32, 33, 34, 35, 36, 37, 38, 39, 40, 41, 42, 43, 44, 45, 46, 47, 48] (by decide +kernel) (by decide +kernel)
set_option maxRecDepth 20000 in
theorem gX5_person_X5_finding : GoodIn wsX5_person (wsV RX5 76 RX5 yX5_finding wsX5_finding) := goodIn_app (goodIn_of _ (by decide +kernel)) ggX5_person_X5_finding
set_option maxRecDepth 20000 in
theorem ggX5_person_X5_comes : GoodIn wsX5_person wsX5_comes := goodIn_r _ [22, 2, 23, 24, 6, 25, 26, 27, 28, 29, 30, 31, 32, 33, 34, 35, 36, 37, 38, 39, 40, 41, 42, 43, 44, 45, 46, 47, 48] (by decide +kernel) (by decide +kernel)
set_option maxRecDepth 20000 in
theorem gX5_person_X5_comes : GoodIn wsX5_person (wsV RX5 102 RX5 yX5_comes wsX5_comes) := goodIn_app (goodIn_of _ (by decide +kernel)) ggX5_person_X5_comes
theorem dX5_person_0 : decode cX5_person 0 = .ok (.iload_n 1, 1) := by decide +kernel
theorem dX5_person_1 : decode cX5_person 1 = .ok (.invokestatic 98, 3) := by decide +kernel
theorem dX5_person_4 : decode cX5_person 4 = .ok (.ifCond .eq 10, 3) := by decide +kernel
theorem dX5_person_7 : decode cX5_person 7 = .ok (.iload_n 2, 1) := by decide +kernel
theorem dX5_person_8 : decode cX5_person 8 = .ok (.invokestatic 88, 3) := by decide +kernel
theorem dX5_person_11 : decode cX5_person 11 = .ok (.ifCond .ne 10, 3) := by decide +kernel
theorem dX5_person_14 : decode cX5_person 14 = .ok (.aload_n 0, 1) := by decide +kernel
theorem dX5_person_15 : decode cX5_person 15 = .ok (.ldc 70, 2) := by decide +kernel
theorem dX5_person_17 : decode cX5_person 17 = .ok (.invokevirtual 76, 3) := by decide +kernel
theorem dX5_person_20 : decode cX5_person 20 = .ok (.ireturn, 1) := by decide +kernel
theorem dX5_person_21 : decode cX5_person 21 = .ok (.aload_n 0, 1) := by decide +kernel
theorem dX5_person_22 : decode cX5_person 22 = .ok (.getfield 9, 3) := by decide +kernel
theorem dX5_person_25 : decode cX5_person 25 = .ok (.iconst 1, 1) := by decide +kernel
theorem dX5_person_26 : decode cX5_person 26 = .ok (.iaload, 1) := by decide +kernel
theorem dX5_person_27 : decode cX5_person 27 = .ok (.bipush 8, 2) := by decide +kernel
theorem dX5_person_29 : decode cX5_person 29 = .ok (.if_icmp .ne 12, 3) := by decide +kernel
theorem dX5_person_32 : decode cX5_person 32 = .ok (.aload_n 0, 1) := by decide +kernel
theorem dX5_person_33 : decode cX5_person 33 = .ok (.ldc 101, 2) := by decide +kernel
theorem dX5_person_35 : decode cX5_person 35 = .ok (.invokevirtual 76, 3) := by decide +kernel
theorem dX5_person_38 : decode cX5_person 38 = .ok (.goto 11, 3) := by decide +kernel
theorem dX5_person_41 : decode cX5_person 41 = .ok (.aload_n 0, 1) := by decide +kernel
theorem dX5_person_42 : decode cX5_person 42 = .ok (.iload_n 1, 1) := by decide +kernel
theorem dX5_person_43 : decode cX5_person 43 = .ok (.iload_n 2, 1) := by decide +kernel
theorem dX5_person_44 : decode cX5_person 44 = .ok (.iconst 1, 1) := by decide +kernel
theorem dX5_person_45 : decode cX5_person 45 = .ok (.iconst (-1), 1) := by decide +kernel
theorem dX5_person_46 : decode cX5_person 46 = .ok (.invokevirtual 102, 3) := by decide +kernel
theorem dX5_person_49 : decode cX5_person 49 = .ok (.ireturn, 1) := by decide +kernel
set_option maxRecDepth 20000 in
theorem ggX5_planners_X5_personIs : GoodIn wsX5_planners wsX5_personIs := goodIn_r _ [7, 1, 8, 9, 6, 10, 11, 12, 13, 14, 15, 16, 17, 18, 19, 20, 21, 22, 23, 24, 25, 26, 27, 28, 29, 30, 31, 32, 33] (by decide +kernel) (by decide +kernel)
set_option maxRecDepth 20000 in
theorem gX5_planners_X5_personIs : GoodIn wsX5_planners (wsV RX5 106 RX5 yX5_personIs wsX5_personIs) := goodIn_app (goodIn_of _ (by decide +kernel)) ggX5_planners_X5_personIs
theorem dX5_planners_0 : decode cX5_planners 0 = .ok (.iconst 0, 1) := by decide +kernel
theorem dX5_planners_1 : decode cX5_planners 1 = .ok (.istore_n 2, 1) := by decide +kernel
theorem dX5_planners_2 : decode cX5_planners 2 = .ok (.iconst 0, 1) := by decide +kernel
theorem dX5_planners_3 : decode cX5_planners 3 = .ok (.istore_n 3, 1) := by decide +kernel
theorem dX5_planners_4 : decode cX5_planners 4 = .ok (.iload_n 3, 1) := by decide +kernel
theorem dX5_planners_5 : decode cX5_planners 5 = .ok (.aload_n 0, 1) := by decide +kernel
theorem dX5_planners_6 : decode cX5_planners 6 = .ok (.getfield 9, 3) := by decide +kernel
theorem dX5_planners_9 : decode cX5_planners 9 = .ok (.iconst 1, 1) := by decide +kernel
theorem dX5_planners_10 : decode cX5_planners 10 = .ok (.iaload, 1) := by decide +kernel
theorem dX5_planners_11 : decode cX5_planners 11 = .ok (.if_icmp .ge 37, 3) := by decide +kernel
theorem dX5_planners_14 : decode cX5_planners 14 = .ok (.iload_n 2, 1) := by decide +kernel
theorem dX5_planners_15 : decode cX5_planners 15 = .ok (.iload_n 3, 1) := by decide +kernel
theorem dX5_planners_16 : decode cX5_planners 16 = .ok (.aload_n 0, 1) := by decide +kernel
theorem dX5_planners_17 : decode cX5_planners 17 = .ok (.getfield 28, 3) := by decide +kernel
theorem dX5_planners_20 : decode cX5_planners 20 = .ok (.if_icmp .eq 19, 3) := by decide +kernel
theorem dX5_planners_23 : decode cX5_planners 23 = .ok (.aload_n 0, 1) := by decide +kernel
theorem dX5_planners_24 : decode cX5_planners 24 = .ok (.iload_n 3, 1) := by decide +kernel
theorem dX5_planners_25 : decode cX5_planners 25 = .ok (.iconst 1, 1) := by decide +kernel
theorem dX5_planners_26 : decode cX5_planners 26 = .ok (.invokevirtual 106, 3) := by decide +kernel
theorem dX5_planners_29 : decode cX5_planners 29 = .ok (.iload_n 1, 1) := by decide +kernel
theorem dX5_planners_30 : decode cX5_planners 30 = .ok (.if_icmp .ne 9, 3) := by decide +kernel
theorem dX5_planners_33 : decode cX5_planners 33 = .ok (.iconst 1, 1) := by decide +kernel
theorem dX5_planners_34 : decode cX5_planners 34 = .ok (.iload_n 3, 1) := by decide +kernel
theorem dX5_planners_35 : decode cX5_planners 35 = .ok (.ishl, 1) := by decide +kernel
theorem dX5_planners_36 : decode cX5_planners 36 = .ok (.goto 4, 3) := by decide +kernel
theorem dX5_planners_39 : decode cX5_planners 39 = .ok (.iconst 0, 1) := by decide +kernel
theorem dX5_planners_40 : decode cX5_planners 40 = .ok (.ior, 1) := by decide +kernel
theorem dX5_planners_41 : decode cX5_planners 41 = .ok (.istore_n 2, 1) := by decide +kernel
theorem dX5_planners_42 : decode cX5_planners 42 = .ok (.iinc 3 1, 3) := by decide +kernel
theorem dX5_planners_45 : decode cX5_planners 45 = .ok (.goto (-41), 3) := by decide +kernel
theorem dX5_planners_48 : decode cX5_planners 48 = .ok (.iload_n 2, 1) := by decide +kernel
theorem dX5_planners_49 : decode cX5_planners 49 = .ok (.ireturn, 1) := by decide +kernel
set_option maxRecDepth 20000 in
theorem ggX5_seenAt_X5_planners : GoodIn wsX5_seenAt wsX5_planners := goodIn_r _ [5, 6, 7, 8, 9, 10, 4, 11, 12, 13, 14, 18, 19, 20, 21, 22, 23, 24, 25, 26, 27, 28, 29, 30, 31, 32, 33, 34, 35, 36, 37, 38, 39, 40] (by decide +kernel) (by decide +kernel)
set_option maxRecDepth 20000 in
theorem gX5_seenAt_X5_planners : GoodIn wsX5_seenAt (wsV RX5 109 RX5 yX5_planners wsX5_planners) := goodIn_app (goodIn_of _ (by decide +kernel)) ggX5_seenAt_X5_planners
set_option maxRecDepth 20000 in
theorem ggX5_seenAt_X5_bits : GoodIn wsX5_seenAt wsX5_bits := goodIn_r _ [17] (by decide +kernel) (by decide +kernel)
set_option maxRecDepth 20000 in
theorem gX5_seenAt_X5_bits : GoodIn wsX5_seenAt (va_wsS RX5 112 yX5_bits wsX5_bits) := goodIn_app (goodIn_of _ (by decide +kernel)) ggX5_seenAt_X5_bits
theorem dX5_seenAt_0 : decode cX5_seenAt 0 = .ok (.aload_n 0, 1) := by decide +kernel
theorem dX5_seenAt_1 : decode cX5_seenAt 1 = .ok (.iload_n 2, 1) := by decide +kernel
theorem dX5_seenAt_2 : decode cX5_seenAt 2 = .ok (.invokevirtual 109, 3) := by decide +kernel
theorem dX5_seenAt_5 : decode cX5_seenAt 5 = .ok (.iconst 1, 1) := by decide +kernel
theorem dX5_seenAt_6 : decode cX5_seenAt 6 = .ok (.iload_n 1, 1) := by decide +kernel
theorem dX5_seenAt_7 : decode cX5_seenAt 7 = .ok (.ishl, 1) := by decide +kernel
theorem dX5_seenAt_8 : decode cX5_seenAt 8 = .ok (.iconst (-1), 1) := by decide +kernel
theorem dX5_seenAt_9 : decode cX5_seenAt 9 = .ok (.ixor, 1) := by decide +kernel
theorem dX5_seenAt_10 : decode cX5_seenAt 10 = .ok (.iand, 1) := by decide +kernel
theorem dX5_seenAt_11 : decode cX5_seenAt 11 = .ok (.invokestatic 112, 3) := by decide +kernel
theorem dX5_seenAt_14 : decode cX5_seenAt 14 = .ok (.ireturn, 1) := by decide +kernel
set_option maxRecDepth 20000 in
theorem ggX5_canSee_X5_personIs : GoodIn wsX5_canSee wsX5_personIs := goodIn_r _ [9, 10, 11, 12, 8, 13, 14, 15, 16, 17, 18, 19, 20, 21, 22, 23, 24, 25, 26, 27, 28, 29, 30, 31, 32, 33, 34, 35, 36] (by decide +kernel) (by decide +kernel)
set_option maxRecDepth 20000 in
theorem gX5_canSee_X5_personIs : GoodIn wsX5_canSee (wsV RX5 106 RX5 yX5_personIs wsX5_personIs) := goodIn_app (goodIn_of _ (by decide +kernel)) ggX5_canSee_X5_personIs
theorem dX5_canSee_0 : decode cX5_canSee 0 = .ok (.iload_n 2, 1) := by decide +kernel
theorem dX5_canSee_1 : decode cX5_canSee 1 = .ok (.aload_n 0, 1) := by decide +kernel
theorem dX5_canSee_2 : decode cX5_canSee 2 = .ok (.iload_n 1, 1) := by decide +kernel
theorem dX5_canSee_3 : decode cX5_canSee 3 = .ok (.iconst 1, 1) := by decide +kernel
theorem dX5_canSee_4 : decode cX5_canSee 4 = .ok (.invokevirtual 106, 3) := by decide +kernel
theorem dX5_canSee_7 : decode cX5_canSee 7 = .ok (.isub, 1) := by decide +kernel
theorem dX5_canSee_8 : decode cX5_canSee 8 = .ok (.invokestatic 115, 3) := by decide +kernel
theorem dX5_canSee_11 : decode cX5_canSee 11 = .ok (.aload_n 0, 1) := by decide +kernel
theorem dX5_canSee_12 : decode cX5_canSee 12 = .ok (.iload_n 1, 1) := by decide +kernel
theorem dX5_canSee_13 : decode cX5_canSee 13 = .ok (.iconst 2, 1) := by decide +kernel
theorem dX5_canSee_14 : decode cX5_canSee 14 = .ok (.invokevirtual 106, 3) := by decide +kernel
theorem dX5_canSee_17 : decode cX5_canSee 17 = .ok (.if_icmp .gt 7, 3) := by decide +kernel
theorem dX5_canSee_20 : decode cX5_canSee 20 = .ok (.iconst 1, 1) := by decide +kernel
theorem dX5_canSee_21 : decode cX5_canSee 21 = .ok (.goto 4, 3) := by decide +kernel
theorem dX5_canSee_24 : decode cX5_canSee 24 = .ok (.iconst 0, 1) := by decide +kernel
theorem dX5_canSee_25 : decode cX5_canSee 25 = .ok (.ireturn, 1) := by decide +kernel
set_option maxRecDepth 20000 in
theorem ggX5_loverWish_X5_personIs : GoodIn wsX5_loverWish wsX5_personIs := goodIn_r _ [7, 2, 8, 9, 6, 10, 11, 12, 13, 14, 15, 16, 17, 18, 19, 20, 21, 22, 23, 24, 25, 26, 27, 28, 29, 30, 31, 32, 33] (by decide +kernel) (by decide +kernel)
set_option maxRecDepth 20000 in
theorem gX5_loverWish_X5_personIs : GoodIn wsX5_loverWish (wsV RX5 106 RX5 yX5_personIs wsX5_personIs) := goodIn_app (goodIn_of _ (by decide +kernel)) ggX5_loverWish_X5_personIs
theorem dX5_loverWish_0 : decode cX5_loverWish 0 = .ok (.aload_n 0, 1) := by decide +kernel
theorem dX5_loverWish_1 : decode cX5_loverWish 1 = .ok (.iload_n 1, 1) := by decide +kernel
theorem dX5_loverWish_2 : decode cX5_loverWish 2 = .ok (.iconst 3, 1) := by decide +kernel
theorem dX5_loverWish_3 : decode cX5_loverWish 3 = .ok (.invokevirtual 106, 3) := by decide +kernel
theorem dX5_loverWish_6 : decode cX5_loverWish 6 = .ok (.istore 4, 2) := by decide +kernel
theorem dX5_loverWish_8 : decode cX5_loverWish 8 = .ok (.iload 4, 2) := by decide +kernel
theorem dX5_loverWish_10 : decode cX5_loverWish 10 = .ok (.ifCond .lt 27, 3) := by decide +kernel
theorem dX5_loverWish_13 : decode cX5_loverWish 13 = .ok (.iload 4, 2) := by decide +kernel
theorem dX5_loverWish_15 : decode cX5_loverWish 15 = .ok (.aload_n 0, 1) := by decide +kernel
theorem dX5_loverWish_16 : decode cX5_loverWish 16 = .ok (.getfield 28, 3) := by decide +kernel
theorem dX5_loverWish_19 : decode cX5_loverWish 19 = .ok (.if_icmp .eq 18, 3) := by decide +kernel
theorem dX5_loverWish_22 : decode cX5_loverWish 22 = .ok (.aload_n 0, 1) := by decide +kernel
theorem dX5_loverWish_23 : decode cX5_loverWish 23 = .ok (.iload 4, 2) := by decide +kernel
theorem dX5_loverWish_25 : decode cX5_loverWish 25 = .ok (.iconst 1, 1) := by decide +kernel
theorem dX5_loverWish_26 : decode cX5_loverWish 26 = .ok (.invokevirtual 106, 3) := by decide +kernel
theorem dX5_loverWish_29 : decode cX5_loverWish 29 = .ok (.iload_n 2, 1) := by decide +kernel
theorem dX5_loverWish_30 : decode cX5_loverWish 30 = .ok (.if_icmp .ne 7, 3) := by decide +kernel
theorem dX5_loverWish_33 : decode cX5_loverWish 33 = .ok (.iconst 1, 1) := by decide +kernel
theorem dX5_loverWish_34 : decode cX5_loverWish 34 = .ok (.goto 4, 3) := by decide +kernel
theorem dX5_loverWish_37 : decode cX5_loverWish 37 = .ok (.iconst 0, 1) := by decide +kernel
theorem dX5_loverWish_38 : decode cX5_loverWish 38 = .ok (.istore 5, 2) := by decide +kernel
theorem dX5_loverWish_40 : decode cX5_loverWish 40 = .ok (.aload_n 0, 1) := by decide +kernel
theorem dX5_loverWish_41 : decode cX5_loverWish 41 = .ok (.getfield 9, 3) := by decide +kernel
theorem dX5_loverWish_44 : decode cX5_loverWish 44 = .ok (.bipush 13, 2) := by decide +kernel
theorem dX5_loverWish_46 : decode cX5_loverWish 46 = .ok (.iload_n 2, 1) := by decide +kernel
theorem dX5_loverWish_47 : decode cX5_loverWish 47 = .ok (.iadd, 1) := by decide +kernel
theorem dX5_loverWish_48 : decode cX5_loverWish 48 = .ok (.iaload, 1) := by decide +kernel
theorem dX5_loverWish_49 : decode cX5_loverWish 49 = .ok (.iconst 1, 1) := by decide +kernel
theorem dX5_loverWish_50 : decode cX5_loverWish 50 = .ok (.iload_n 3, 1) := by decide +kernel
theorem dX5_loverWish_51 : decode cX5_loverWish 51 = .ok (.iadd, 1) := by decide +kernel
theorem dX5_loverWish_52 : decode cX5_loverWish 52 = .ok (.idiv, 1) := by decide +kernel
theorem dX5_loverWish_53 : decode cX5_loverWish 53 = .ok (.iload 5, 2) := by decide +kernel
theorem dX5_loverWish_55 : decode cX5_loverWish 55 = .ok (.ifCond .eq 8, 3) := by decide +kernel
theorem dX5_loverWish_58 : decode cX5_loverWish 58 = .ok (.bipush 100, 2) := by decide +kernel
theorem dX5_loverWish_60 : decode cX5_loverWish 60 = .ok (.goto 4, 3) := by decide +kernel
theorem dX5_loverWish_63 : decode cX5_loverWish 63 = .ok (.iconst 0, 1) := by decide +kernel
theorem dX5_loverWish_64 : decode cX5_loverWish 64 = .ok (.iadd, 1) := by decide +kernel
theorem dX5_loverWish_65 : decode cX5_loverWish 65 = .ok (.ireturn, 1) := by decide +kernel
set_option maxRecDepth 20000 in
theorem ggX5_wishAt_X5_seenAt : GoodIn wsX5_wishAt wsX5_seenAt := goodIn_r _ [6, 7, 8, 9, 5, 10, 1, 11, 12, 13, 14, 15, 16, 17, 18, 19, 20, 21, 26, 27, 28, 29, 30, 31, 32, 33, 34, 35, 36, 37, 38, 39, 40, 41, 42, 43, 44, 45, 46, 47, 48] (by decide +kernel) (by decide +kernel)
set_option maxRecDepth 20000 in
theorem gX5_wishAt_X5_seenAt : GoodIn wsX5_wishAt (wsV RX5 120 RX5 yX5_seenAt wsX5_seenAt) := goodIn_app (goodIn_of _ (by decide +kernel)) ggX5_wishAt_X5_seenAt
set_option maxRecDepth 20000 in
theorem ggX5_wishAt_X5_personIs : GoodIn wsX5_wishAt wsX5_personIs := goodIn_r _ [15, 1, 16, 17, 5, 18, 26, 27, 28, 29, 30, 31, 32, 33, 34, 35, 36, 37, 38, 39, 40, 41, 42, 43, 44, 45, 46, 47, 48] (by decide +kernel) (by decide +kernel)
set_option maxRecDepth 20000 in
theorem gX5_wishAt_X5_personIs : GoodIn wsX5_wishAt (wsV RX5 106 RX5 yX5_personIs wsX5_personIs) := goodIn_app (goodIn_of _ (by decide +kernel)) ggX5_wishAt_X5_personIs
set_option maxRecDepth 20000 in
theorem ggX5_wishAt_X5_loverWish : GoodIn wsX5_wishAt wsX5_loverWish := goodIn_r _ [25, 11, 1, 12, 13, 14, 5, 15, 16, 17, 18, 26, 27, 28, 29, 30, 31, 32, 33, 34, 35, 36, 37, 38, 39, 40, 41, 42, 43, 44, 45, 46, 47, 48] (by decide +kernel) (by decide +kernel)
set_option maxRecDepth 20000 in
theorem gX5_wishAt_X5_loverWish : GoodIn wsX5_wishAt (wsV RX5 123 RX5 yX5_loverWish wsX5_loverWish) := goodIn_app (goodIn_of _ (by decide +kernel)) ggX5_wishAt_X5_loverWish
theorem dX5_wishAt_0 : decode cX5_wishAt 0 = .ok (.aload_n 0, 1) := by decide +kernel
theorem dX5_wishAt_1 : decode cX5_wishAt 1 = .ok (.iload_n 1, 1) := by decide +kernel
theorem dX5_wishAt_2 : decode cX5_wishAt 2 = .ok (.iload_n 2, 1) := by decide +kernel
theorem dX5_wishAt_3 : decode cX5_wishAt 3 = .ok (.invokevirtual 120, 3) := by decide +kernel
theorem dX5_wishAt_6 : decode cX5_wishAt 6 = .ok (.istore_n 3, 1) := by decide +kernel
theorem dX5_wishAt_7 : decode cX5_wishAt 7 = .ok (.aload_n 0, 1) := by decide +kernel
theorem dX5_wishAt_8 : decode cX5_wishAt 8 = .ok (.iload_n 1, 1) := by decide +kernel
theorem dX5_wishAt_9 : decode cX5_wishAt 9 = .ok (.iconst 1, 1) := by decide +kernel
theorem dX5_wishAt_10 : decode cX5_wishAt 10 = .ok (.invokevirtual 106, 3) := by decide +kernel
theorem dX5_wishAt_13 : decode cX5_wishAt 13 = .ok (.iload_n 2, 1) := by decide +kernel
theorem dX5_wishAt_14 : decode cX5_wishAt 14 = .ok (.if_icmp .ne 7, 3) := by decide +kernel
theorem dX5_wishAt_17 : decode cX5_wishAt 17 = .ok (.iconst 1, 1) := by decide +kernel
theorem dX5_wishAt_18 : decode cX5_wishAt 18 = .ok (.goto 4, 3) := by decide +kernel
theorem dX5_wishAt_21 : decode cX5_wishAt 21 = .ok (.iconst 0, 1) := by decide +kernel
theorem dX5_wishAt_22 : decode cX5_wishAt 22 = .ok (.istore 4, 2) := by decide +kernel
theorem dX5_wishAt_24 : decode cX5_wishAt 24 = .ok (.aload_n 0, 1) := by decide +kernel
theorem dX5_wishAt_25 : decode cX5_wishAt 25 = .ok (.iload_n 1, 1) := by decide +kernel
theorem dX5_wishAt_26 : decode cX5_wishAt 26 = .ok (.iconst 0, 1) := by decide +kernel
theorem dX5_wishAt_27 : decode cX5_wishAt 27 = .ok (.invokevirtual 106, 3) := by decide +kernel
theorem dX5_wishAt_30 : decode cX5_wishAt 30 = .ok (.tableswitch 122 1 6 #[38, 56, 64, 76, 88, 99], 38) := by decide +kernel
theorem dX5_wishAt_68 : decode cX5_wishAt 68 = .ok (.iload_n 3, 1) := by decide +kernel
theorem dX5_wishAt_69 : decode cX5_wishAt 69 = .ok (.ifCond .ne 15, 3) := by decide +kernel
theorem dX5_wishAt_72 : decode cX5_wishAt 72 = .ok (.aload_n 0, 1) := by decide +kernel
theorem dX5_wishAt_73 : decode cX5_wishAt 73 = .ok (.getfield 9, 3) := by decide +kernel
theorem dX5_wishAt_76 : decode cX5_wishAt 76 = .ok (.bipush 13, 2) := by decide +kernel
theorem dX5_wishAt_78 : decode cX5_wishAt 78 = .ok (.iload_n 2, 1) := by decide +kernel
theorem dX5_wishAt_79 : decode cX5_wishAt 79 = .ok (.iadd, 1) := by decide +kernel
theorem dX5_wishAt_80 : decode cX5_wishAt 80 = .ok (.iaload, 1) := by decide +kernel
theorem dX5_wishAt_81 : decode cX5_wishAt 81 = .ok (.goto 4, 3) := by decide +kernel
theorem dX5_wishAt_84 : decode cX5_wishAt 84 = .ok (.iconst 0, 1) := by decide +kernel
theorem dX5_wishAt_85 : decode cX5_wishAt 85 = .ok (.ireturn, 1) := by decide +kernel
theorem dX5_wishAt_86 : decode cX5_wishAt 86 = .ok (.aload_n 0, 1) := by decide +kernel
theorem dX5_wishAt_87 : decode cX5_wishAt 87 = .ok (.iload_n 1, 1) := by decide +kernel
theorem dX5_wishAt_88 : decode cX5_wishAt 88 = .ok (.iload_n 2, 1) := by decide +kernel
theorem dX5_wishAt_89 : decode cX5_wishAt 89 = .ok (.iload_n 3, 1) := by decide +kernel
theorem dX5_wishAt_90 : decode cX5_wishAt 90 = .ok (.invokevirtual 123, 3) := by decide +kernel
theorem dX5_wishAt_93 : decode cX5_wishAt 93 = .ok (.ireturn, 1) := by decide +kernel
theorem dX5_wishAt_94 : decode cX5_wishAt 94 = .ok (.aload_n 0, 1) := by decide +kernel
theorem dX5_wishAt_95 : decode cX5_wishAt 95 = .ok (.iload_n 1, 1) := by decide +kernel
theorem dX5_wishAt_96 : decode cX5_wishAt 96 = .ok (.iload_n 2, 1) := by decide +kernel
theorem dX5_wishAt_97 : decode cX5_wishAt 97 = .ok (.iload_n 3, 1) := by decide +kernel
theorem dX5_wishAt_98 : decode cX5_wishAt 98 = .ok (.invokevirtual 123, 3) := by decide +kernel
theorem dX5_wishAt_101 : decode cX5_wishAt 101 = .ok (.iconst 5, 1) := by decide +kernel
theorem dX5_wishAt_102 : decode cX5_wishAt 102 = .ok (.iload_n 3, 1) := by decide +kernel
theorem dX5_wishAt_103 : decode cX5_wishAt 103 = .ok (.imul, 1) := by decide +kernel
theorem dX5_wishAt_104 : decode cX5_wishAt 104 = .ok (.isub, 1) := by decide +kernel
theorem dX5_wishAt_105 : decode cX5_wishAt 105 = .ok (.ireturn, 1) := by decide +kernel
theorem dX5_wishAt_106 : decode cX5_wishAt 106 = .ok (.aload_n 0, 1) := by decide +kernel
theorem dX5_wishAt_107 : decode cX5_wishAt 107 = .ok (.iload_n 1, 1) := by decide +kernel
theorem dX5_wishAt_108 : decode cX5_wishAt 108 = .ok (.iload_n 2, 1) := by decide +kernel
theorem dX5_wishAt_109 : decode cX5_wishAt 109 = .ok (.iload_n 3, 1) := by decide +kernel
theorem dX5_wishAt_110 : decode cX5_wishAt 110 = .ok (.invokevirtual 123, 3) := by decide +kernel
theorem dX5_wishAt_113 : decode cX5_wishAt 113 = .ok (.iconst 2, 1) := by decide +kernel
theorem dX5_wishAt_114 : decode cX5_wishAt 114 = .ok (.iload_n 3, 1) := by decide +kernel
theorem dX5_wishAt_115 : decode cX5_wishAt 115 = .ok (.imul, 1) := by decide +kernel
theorem dX5_wishAt_116 : decode cX5_wishAt 116 = .ok (.iadd, 1) := by decide +kernel
theorem dX5_wishAt_117 : decode cX5_wishAt 117 = .ok (.ireturn, 1) := by decide +kernel
theorem dX5_wishAt_118 : decode cX5_wishAt 118 = .ok (.iload 4, 2) := by decide +kernel
theorem dX5_wishAt_120 : decode cX5_wishAt 120 = .ok (.ifCond .eq 7, 3) := by decide +kernel
theorem dX5_wishAt_123 : decode cX5_wishAt 123 = .ok (.iconst 1, 1) := by decide +kernel
theorem dX5_wishAt_124 : decode cX5_wishAt 124 = .ok (.goto 4, 3) := by decide +kernel
theorem dX5_wishAt_127 : decode cX5_wishAt 127 = .ok (.iconst 0, 1) := by decide +kernel
theorem dX5_wishAt_128 : decode cX5_wishAt 128 = .ok (.ireturn, 1) := by decide +kernel
theorem dX5_wishAt_129 : decode cX5_wishAt 129 = .ok (.iload 4, 2) := by decide +kernel
theorem dX5_wishAt_131 : decode cX5_wishAt 131 = .ok (.ifCond .eq 19, 3) := by decide +kernel
theorem dX5_wishAt_134 : decode cX5_wishAt 134 = .ok (.iload_n 3, 1) := by decide +kernel
theorem dX5_wishAt_135 : decode cX5_wishAt 135 = .ok (.ifCond .ne 15, 3) := by decide +kernel
theorem dX5_wishAt_138 : decode cX5_wishAt 138 = .ok (.aload_n 0, 1) := by decide +kernel
theorem dX5_wishAt_139 : decode cX5_wishAt 139 = .ok (.getfield 9, 3) := by decide +kernel
theorem dX5_wishAt_142 : decode cX5_wishAt 142 = .ok (.bipush 13, 2) := by decide +kernel
theorem dX5_wishAt_144 : decode cX5_wishAt 144 = .ok (.iload_n 2, 1) := by decide +kernel
theorem dX5_wishAt_145 : decode cX5_wishAt 145 = .ok (.iadd, 1) := by decide +kernel
theorem dX5_wishAt_146 : decode cX5_wishAt 146 = .ok (.iaload, 1) := by decide +kernel
theorem dX5_wishAt_147 : decode cX5_wishAt 147 = .ok (.goto 4, 3) := by decide +kernel
theorem dX5_wishAt_150 : decode cX5_wishAt 150 = .ok (.iconst 0, 1) := by decide +kernel
theorem dX5_wishAt_151 : decode cX5_wishAt 151 = .ok (.ireturn, 1) := by decide +kernel
theorem dX5_wishAt_152 : decode cX5_wishAt 152 = .ok (.aload_n 0, 1) := by decide +kernel
theorem dX5_wishAt_153 : decode cX5_wishAt 153 = .ok (.getfield 9, 3) := by decide +kernel
theorem dX5_wishAt_156 : decode cX5_wishAt 156 = .ok (.bipush 13, 2) := by decide +kernel
theorem dX5_wishAt_158 : decode cX5_wishAt 158 = .ok (.iload_n 2, 1) := by decide +kernel
theorem dX5_wishAt_159 : decode cX5_wishAt 159 = .ok (.iadd, 1) := by decide +kernel
theorem dX5_wishAt_160 : decode cX5_wishAt 160 = .ok (.iaload, 1) := by decide +kernel
theorem dX5_wishAt_161 : decode cX5_wishAt 161 = .ok (.iconst 1, 1) := by decide +kernel
theorem dX5_wishAt_162 : decode cX5_wishAt 162 = .ok (.iload_n 3, 1) := by decide +kernel
theorem dX5_wishAt_163 : decode cX5_wishAt 163 = .ok (.iadd, 1) := by decide +kernel
theorem dX5_wishAt_164 : decode cX5_wishAt 164 = .ok (.idiv, 1) := by decide +kernel
theorem dX5_wishAt_165 : decode cX5_wishAt 165 = .ok (.ireturn, 1) := by decide +kernel
set_option maxRecDepth 20000 in
theorem ggX5_choiceOf_X5_personIs : GoodIn wsX5_choiceOf wsX5_personIs := goodIn_r _ [5, 6, 7, 8, 4, 9, 38, 39, 40, 41, 42, 43, 44, 45, 46, 47, 48, 49, 50, 51, 52, 53, 54, 55, 56, 57, 58, 59, 60] (by decide +kernel) (by decide +kernel)
set_option maxRecDepth 20000 in
theorem gX5_choiceOf_X5_personIs : GoodIn wsX5_choiceOf (wsV RX5 106 RX5 yX5_personIs wsX5_personIs) := goodIn_app (goodIn_of _ (by decide +kernel)) ggX5_choiceOf_X5_personIs
set_option maxRecDepth 20000 in
theorem ggX5_choiceOf_X5_wishAt : GoodIn wsX5_choiceOf wsX5_wishAt := goodIn_r _ [13, 6, 14, 15, 16, 4, 17, 18, 19, 20, 21, 22, 1, 2, 3, 5, 7, 8, 9, 23, 24, 25, 26, 27, 28, 29, 38, 39, 40, 41, 42, 43, 44, 45, 46, 47, 48, 49, 50, 51, 52, 53, 54, 55, 56, 57, 58, 59, 60] (by decide +kernel) (by decide +kernel)
set_option maxRecDepth 20000 in
theorem gX5_choiceOf_X5_wishAt : GoodIn wsX5_choiceOf (wsV RX5 127 RX5 yX5_wishAt wsX5_wishAt) := goodIn_app (goodIn_of _ (by decide +kernel)) ggX5_choiceOf_X5_wishAt
set_option maxRecDepth 20000 in
theorem ggX5_choiceOf_X5_canSee : GoodIn wsX5_choiceOf wsX5_canSee := goodIn_r _ [33, 34, 35, 36, 37, 1, 2, 3, 4, 5, 6, 7, 8, 9, 38, 39, 40, 41, 42, 43, 44, 45, 46, 47, 48, 49, 50, 51, 52, 53, 54, 55, 56, 57, 58, 59, 60] (by decide +kernel) (by decide +kernel)
set_option maxRecDepth 20000 in
theorem gX5_choiceOf_X5_canSee : GoodIn wsX5_choiceOf (wsV RX5 130 RX5 yX5_canSee wsX5_canSee) := goodIn_app (goodIn_of _ (by decide +kernel)) ggX5_choiceOf_X5_canSee
theorem dX5_choiceOf_0 : decode cX5_choiceOf 0 = .ok (.aload_n 0, 1) := by decide +kernel
theorem dX5_choiceOf_1 : decode cX5_choiceOf 1 = .ok (.iload_n 1, 1) := by decide +kernel
theorem dX5_choiceOf_2 : decode cX5_choiceOf 2 = .ok (.iconst 1, 1) := by decide +kernel
theorem dX5_choiceOf_3 : decode cX5_choiceOf 3 = .ok (.invokevirtual 106, 3) := by decide +kernel
theorem dX5_choiceOf_6 : decode cX5_choiceOf 6 = .ok (.istore_n 2, 1) := by decide +kernel
theorem dX5_choiceOf_7 : decode cX5_choiceOf 7 = .ok (.aload_n 0, 1) := by decide +kernel
theorem dX5_choiceOf_8 : decode cX5_choiceOf 8 = .ok (.iload_n 1, 1) := by decide +kernel
theorem dX5_choiceOf_9 : decode cX5_choiceOf 9 = .ok (.iload_n 2, 1) := by decide +kernel
theorem dX5_choiceOf_10 : decode cX5_choiceOf 10 = .ok (.invokevirtual 127, 3) := by decide +kernel
theorem dX5_choiceOf_13 : decode cX5_choiceOf 13 = .ok (.istore_n 3, 1) := by decide +kernel
theorem dX5_choiceOf_14 : decode cX5_choiceOf 14 = .ok (.iconst 0, 1) := by decide +kernel
theorem dX5_choiceOf_15 : decode cX5_choiceOf 15 = .ok (.istore 4, 2) := by decide +kernel
theorem dX5_choiceOf_17 : decode cX5_choiceOf 17 = .ok (.iload 4, 2) := by decide +kernel
theorem dX5_choiceOf_19 : decode cX5_choiceOf 19 = .ok (.bipush 8, 2) := by decide +kernel
theorem dX5_choiceOf_21 : decode cX5_choiceOf 21 = .ok (.if_icmp .ge 41, 3) := by decide +kernel
theorem dX5_choiceOf_24 : decode cX5_choiceOf 24 = .ok (.aload_n 0, 1) := by decide +kernel
theorem dX5_choiceOf_25 : decode cX5_choiceOf 25 = .ok (.iload_n 1, 1) := by decide +kernel
theorem dX5_choiceOf_26 : decode cX5_choiceOf 26 = .ok (.iload 4, 2) := by decide +kernel
theorem dX5_choiceOf_28 : decode cX5_choiceOf 28 = .ok (.invokevirtual 130, 3) := by decide +kernel
theorem dX5_choiceOf_31 : decode cX5_choiceOf 31 = .ok (.ifCond .eq 25, 3) := by decide +kernel
theorem dX5_choiceOf_34 : decode cX5_choiceOf 34 = .ok (.aload_n 0, 1) := by decide +kernel
theorem dX5_choiceOf_35 : decode cX5_choiceOf 35 = .ok (.iload_n 1, 1) := by decide +kernel
theorem dX5_choiceOf_36 : decode cX5_choiceOf 36 = .ok (.iload 4, 2) := by decide +kernel
theorem dX5_choiceOf_38 : decode cX5_choiceOf 38 = .ok (.invokevirtual 127, 3) := by decide +kernel
theorem dX5_choiceOf_41 : decode cX5_choiceOf 41 = .ok (.iload_n 3, 1) := by decide +kernel
theorem dX5_choiceOf_42 : decode cX5_choiceOf 42 = .ok (.if_icmp .le 14, 3) := by decide +kernel
theorem dX5_choiceOf_45 : decode cX5_choiceOf 45 = .ok (.iload 4, 2) := by decide +kernel
theorem dX5_choiceOf_47 : decode cX5_choiceOf 47 = .ok (.istore_n 2, 1) := by decide +kernel
theorem dX5_choiceOf_48 : decode cX5_choiceOf 48 = .ok (.aload_n 0, 1) := by decide +kernel
theorem dX5_choiceOf_49 : decode cX5_choiceOf 49 = .ok (.iload_n 1, 1) := by decide +kernel
theorem dX5_choiceOf_50 : decode cX5_choiceOf 50 = .ok (.iload 4, 2) := by decide +kernel
theorem dX5_choiceOf_52 : decode cX5_choiceOf 52 = .ok (.invokevirtual 127, 3) := by decide +kernel
theorem dX5_choiceOf_55 : decode cX5_choiceOf 55 = .ok (.istore_n 3, 1) := by decide +kernel
theorem dX5_choiceOf_56 : decode cX5_choiceOf 56 = .ok (.iinc 4 1, 3) := by decide +kernel
theorem dX5_choiceOf_59 : decode cX5_choiceOf 59 = .ok (.goto (-42), 3) := by decide +kernel
theorem dX5_choiceOf_62 : decode cX5_choiceOf 62 = .ok (.iload_n 2, 1) := by decide +kernel
theorem dX5_choiceOf_63 : decode cX5_choiceOf 63 = .ok (.ireturn, 1) := by decide +kernel
theorem dX5_comers_0 : decode cX5_comers 0 = .ok (.iconst 0, 1) := by decide +kernel
theorem dX5_comers_1 : decode cX5_comers 1 = .ok (.istore_n 2, 1) := by decide +kernel
theorem dX5_comers_2 : decode cX5_comers 2 = .ok (.iconst 0, 1) := by decide +kernel
theorem dX5_comers_3 : decode cX5_comers 3 = .ok (.istore_n 3, 1) := by decide +kernel
theorem dX5_comers_4 : decode cX5_comers 4 = .ok (.iload_n 3, 1) := by decide +kernel
theorem dX5_comers_5 : decode cX5_comers 5 = .ok (.aload_n 0, 1) := by decide +kernel
theorem dX5_comers_6 : decode cX5_comers 6 = .ok (.getfield 9, 3) := by decide +kernel
theorem dX5_comers_9 : decode cX5_comers 9 = .ok (.iconst 1, 1) := by decide +kernel
theorem dX5_comers_10 : decode cX5_comers 10 = .ok (.iaload, 1) := by decide +kernel
theorem dX5_comers_11 : decode cX5_comers 11 = .ok (.if_icmp .ge 29, 3) := by decide +kernel
theorem dX5_comers_14 : decode cX5_comers 14 = .ok (.iload_n 2, 1) := by decide +kernel
theorem dX5_comers_15 : decode cX5_comers 15 = .ok (.aload_n 0, 1) := by decide +kernel
theorem dX5_comers_16 : decode cX5_comers 16 = .ok (.getfield 22, 3) := by decide +kernel
theorem dX5_comers_19 : decode cX5_comers 19 = .ok (.iload_n 3, 1) := by decide +kernel
theorem dX5_comers_20 : decode cX5_comers 20 = .ok (.iaload, 1) := by decide +kernel
theorem dX5_comers_21 : decode cX5_comers 21 = .ok (.iload_n 1, 1) := by decide +kernel
theorem dX5_comers_22 : decode cX5_comers 22 = .ok (.if_icmp .ne 9, 3) := by decide +kernel
theorem dX5_comers_25 : decode cX5_comers 25 = .ok (.iconst 1, 1) := by decide +kernel
theorem dX5_comers_26 : decode cX5_comers 26 = .ok (.iload_n 3, 1) := by decide +kernel
theorem dX5_comers_27 : decode cX5_comers 27 = .ok (.ishl, 1) := by decide +kernel
theorem dX5_comers_28 : decode cX5_comers 28 = .ok (.goto 4, 3) := by decide +kernel
theorem dX5_comers_31 : decode cX5_comers 31 = .ok (.iconst 0, 1) := by decide +kernel
theorem dX5_comers_32 : decode cX5_comers 32 = .ok (.ior, 1) := by decide +kernel
theorem dX5_comers_33 : decode cX5_comers 33 = .ok (.istore_n 2, 1) := by decide +kernel
theorem dX5_comers_34 : decode cX5_comers 34 = .ok (.iinc 3 1, 3) := by decide +kernel
theorem dX5_comers_37 : decode cX5_comers 37 = .ok (.goto (-33), 3) := by decide +kernel
theorem dX5_comers_40 : decode cX5_comers 40 = .ok (.iload_n 2, 1) := by decide +kernel
theorem dX5_comers_41 : decode cX5_comers 41 = .ok (.ireturn, 1) := by decide +kernel
set_option maxRecDepth 20000 in
theorem ggX5_looksAt_X5_choiceOf : GoodIn wsX5_looksAt wsX5_choiceOf := goodIn_r _ [9, 10, 11, 12, 8, 13, 1, 14, 15, 16, 17, 18, 19, 20, 21, 22, 23, 24, 25, 26, 27, 28, 3, 29, 30, 31, 32, 33, 34, 35, 36, 37, 38, 39, 40, 41, 42, 43, 48, 49, 50, 51, 52, 53, 54, 55, 56, 57, 58, 59, 60, 61, 62, 63, 64, 65, 66, 67, 68, 69, 70] (by decide +kernel) (by decide +kernel)
set_option maxRecDepth 20000 in
theorem gX5_looksAt_X5_choiceOf : GoodIn wsX5_looksAt (wsV RX5 134 RX5 yX5_choiceOf wsX5_choiceOf) := goodIn_app (goodIn_of _ (by decide +kernel)) ggX5_looksAt_X5_choiceOf
set_option maxRecDepth 20000 in
theorem ggX5_looksAt_X5_comers : GoodIn wsX5_looksAt wsX5_comers := goodIn_r _ [47, 1, 2, 48, 49, 50, 51, 52, 53, 54, 55, 56, 57, 58, 59, 60, 61, 62, 63, 64, 65, 66, 67, 68, 69, 70] (by decide +kernel) (by decide +kernel)
set_option maxRecDepth 20000 in
theorem gX5_looksAt_X5_comers : GoodIn wsX5_looksAt (wsV RX5 137 RX5 yX5_comers wsX5_comers) := goodIn_app (goodIn_of _ (by decide +kernel)) ggX5_looksAt_X5_comers
set_option maxRecDepth 20000 in
theorem ggX5_looksAt_X5_bits : GoodIn wsX5_looksAt wsX5_bits := goodIn_r _ [31] (by decide +kernel) (by decide +kernel)
set_option maxRecDepth 20000 in
theorem gX5_looksAt_X5_bits : GoodIn wsX5_looksAt (va_wsS RX5 112 yX5_bits wsX5_bits) := goodIn_app (goodIn_of _ (by decide +kernel)) ggX5_looksAt_X5_bits
theorem dX5_looksAt_0 : decode cX5_looksAt 0 = .ok (.iconst 0, 1) := by decide +kernel
theorem dX5_looksAt_1 : decode cX5_looksAt 1 = .ok (.istore_n 1, 1) := by decide +kernel
theorem dX5_looksAt_2 : decode cX5_looksAt 2 = .ok (.iload_n 1, 1) := by decide +kernel
theorem dX5_looksAt_3 : decode cX5_looksAt 3 = .ok (.aload_n 0, 1) := by decide +kernel
theorem dX5_looksAt_4 : decode cX5_looksAt 4 = .ok (.getfield 9, 3) := by decide +kernel
theorem dX5_looksAt_7 : decode cX5_looksAt 7 = .ok (.iconst 1, 1) := by decide +kernel
theorem dX5_looksAt_8 : decode cX5_looksAt 8 = .ok (.iaload, 1) := by decide +kernel
theorem dX5_looksAt_9 : decode cX5_looksAt 9 = .ok (.if_icmp .ge 32, 3) := by decide +kernel
theorem dX5_looksAt_12 : decode cX5_looksAt 12 = .ok (.aload_n 0, 1) := by decide +kernel
theorem dX5_looksAt_13 : decode cX5_looksAt 13 = .ok (.getfield 22, 3) := by decide +kernel
theorem dX5_looksAt_16 : decode cX5_looksAt 16 = .ok (.iload_n 1, 1) := by decide +kernel
theorem dX5_looksAt_17 : decode cX5_looksAt 17 = .ok (.iload_n 1, 1) := by decide +kernel
theorem dX5_looksAt_18 : decode cX5_looksAt 18 = .ok (.aload_n 0, 1) := by decide +kernel
theorem dX5_looksAt_19 : decode cX5_looksAt 19 = .ok (.getfield 28, 3) := by decide +kernel
theorem dX5_looksAt_22 : decode cX5_looksAt 22 = .ok (.if_icmp .ne 7, 3) := by decide +kernel
theorem dX5_looksAt_25 : decode cX5_looksAt 25 = .ok (.iconst (-1), 1) := by decide +kernel
theorem dX5_looksAt_26 : decode cX5_looksAt 26 = .ok (.goto 8, 3) := by decide +kernel
theorem dX5_looksAt_29 : decode cX5_looksAt 29 = .ok (.aload_n 0, 1) := by decide +kernel
theorem dX5_looksAt_30 : decode cX5_looksAt 30 = .ok (.iload_n 1, 1) := by decide +kernel
theorem dX5_looksAt_31 : decode cX5_looksAt 31 = .ok (.invokevirtual 134, 3) := by decide +kernel
theorem dX5_looksAt_34 : decode cX5_looksAt 34 = .ok (.iastore, 1) := by decide +kernel
theorem dX5_looksAt_35 : decode cX5_looksAt 35 = .ok (.iinc 1 1, 3) := by decide +kernel
theorem dX5_looksAt_38 : decode cX5_looksAt 38 = .ok (.goto (-36), 3) := by decide +kernel
theorem dX5_looksAt_41 : decode cX5_looksAt 41 = .ok (.iconst 0, 1) := by decide +kernel
theorem dX5_looksAt_42 : decode cX5_looksAt 42 = .ok (.istore_n 1, 1) := by decide +kernel
theorem dX5_looksAt_43 : decode cX5_looksAt 43 = .ok (.iload_n 1, 1) := by decide +kernel
theorem dX5_looksAt_44 : decode cX5_looksAt 44 = .ok (.aload_n 0, 1) := by decide +kernel
theorem dX5_looksAt_45 : decode cX5_looksAt 45 = .ok (.getfield 9, 3) := by decide +kernel
theorem dX5_looksAt_48 : decode cX5_looksAt 48 = .ok (.iconst 1, 1) := by decide +kernel
theorem dX5_looksAt_49 : decode cX5_looksAt 49 = .ok (.iaload, 1) := by decide +kernel
theorem dX5_looksAt_50 : decode cX5_looksAt 50 = .ok (.if_icmp .ge 55, 3) := by decide +kernel
theorem dX5_looksAt_53 : decode cX5_looksAt 53 = .ok (.aload_n 0, 1) := by decide +kernel
theorem dX5_looksAt_54 : decode cX5_looksAt 54 = .ok (.getfield 25, 3) := by decide +kernel
theorem dX5_looksAt_57 : decode cX5_looksAt 57 = .ok (.iload_n 1, 1) := by decide +kernel
theorem dX5_looksAt_58 : decode cX5_looksAt 58 = .ok (.iload_n 1, 1) := by decide +kernel
theorem dX5_looksAt_59 : decode cX5_looksAt 59 = .ok (.aload_n 0, 1) := by decide +kernel
theorem dX5_looksAt_60 : decode cX5_looksAt 60 = .ok (.getfield 28, 3) := by decide +kernel
theorem dX5_looksAt_63 : decode cX5_looksAt 63 = .ok (.if_icmp .ne 7, 3) := by decide +kernel
theorem dX5_looksAt_66 : decode cX5_looksAt 66 = .ok (.iconst 0, 1) := by decide +kernel
theorem dX5_looksAt_67 : decode cX5_looksAt 67 = .ok (.goto 31, 3) := by decide +kernel
theorem dX5_looksAt_70 : decode cX5_looksAt 70 = .ok (.aload_n 0, 1) := by decide +kernel
theorem dX5_looksAt_71 : decode cX5_looksAt 71 = .ok (.getfield 9, 3) := by decide +kernel
theorem dX5_looksAt_74 : decode cX5_looksAt 74 = .ok (.bipush 13, 2) := by decide +kernel
theorem dX5_looksAt_76 : decode cX5_looksAt 76 = .ok (.aload_n 0, 1) := by decide +kernel
theorem dX5_looksAt_77 : decode cX5_looksAt 77 = .ok (.getfield 22, 3) := by decide +kernel
theorem dX5_looksAt_80 : decode cX5_looksAt 80 = .ok (.iload_n 1, 1) := by decide +kernel
theorem dX5_looksAt_81 : decode cX5_looksAt 81 = .ok (.iaload, 1) := by decide +kernel
theorem dX5_looksAt_82 : decode cX5_looksAt 82 = .ok (.iadd, 1) := by decide +kernel
theorem dX5_looksAt_83 : decode cX5_looksAt 83 = .ok (.iaload, 1) := by decide +kernel
theorem dX5_looksAt_84 : decode cX5_looksAt 84 = .ok (.aload_n 0, 1) := by decide +kernel
theorem dX5_looksAt_85 : decode cX5_looksAt 85 = .ok (.aload_n 0, 1) := by decide +kernel
theorem dX5_looksAt_86 : decode cX5_looksAt 86 = .ok (.getfield 22, 3) := by decide +kernel
theorem dX5_looksAt_89 : decode cX5_looksAt 89 = .ok (.iload_n 1, 1) := by decide +kernel
theorem dX5_looksAt_90 : decode cX5_looksAt 90 = .ok (.iaload, 1) := by decide +kernel
theorem dX5_looksAt_91 : decode cX5_looksAt 91 = .ok (.invokevirtual 137, 3) := by decide +kernel
theorem dX5_looksAt_94 : decode cX5_looksAt 94 = .ok (.invokestatic 112, 3) := by decide +kernel
theorem dX5_looksAt_97 : decode cX5_looksAt 97 = .ok (.idiv, 1) := by decide +kernel
theorem dX5_looksAt_98 : decode cX5_looksAt 98 = .ok (.iastore, 1) := by decide +kernel
theorem dX5_looksAt_99 : decode cX5_looksAt 99 = .ok (.iinc 1 1, 3) := by decide +kernel
theorem dX5_looksAt_102 : decode cX5_looksAt 102 = .ok (.goto (-59), 3) := by decide +kernel
theorem dX5_looksAt_105 : decode cX5_looksAt 105 = .ok (.return_, 1) := by decide +kernel
set_option maxRecDepth 20000 in
theorem ggX5_doesRegret_X5_comers : GoodIn wsX5_doesRegret wsX5_comers := goodIn_r _ [8, 2, 1, 12, 13, 14, 15, 16, 17, 18, 19, 20, 21, 22, 23, 24, 25, 26, 27, 28, 29, 30, 31, 32, 33, 34] (by decide +kernel) (by decide +kernel)
set_option maxRecDepth 20000 in
theorem gX5_doesRegret_X5_comers : GoodIn wsX5_doesRegret (wsV RX5 137 RX5 yX5_comers wsX5_comers) := goodIn_app (goodIn_of _ (by decide +kernel)) ggX5_doesRegret_X5_comers
set_option maxRecDepth 20000 in
theorem ggX5_doesRegret_X5_bits : GoodIn wsX5_doesRegret wsX5_bits := goodIn_r _ [11] (by decide +kernel) (by decide +kernel)
set_option maxRecDepth 20000 in
theorem gX5_doesRegret_X5_bits : GoodIn wsX5_doesRegret (va_wsS RX5 112 yX5_bits wsX5_bits) := goodIn_app (goodIn_of _ (by decide +kernel)) ggX5_doesRegret_X5_bits
theorem dX5_doesRegret_0 : decode cX5_doesRegret 0 = .ok (.iconst 0, 1) := by decide +kernel
theorem dX5_doesRegret_1 : decode cX5_doesRegret 1 = .ok (.istore_n 2, 1) := by decide +kernel
theorem dX5_doesRegret_2 : decode cX5_doesRegret 2 = .ok (.iconst 0, 1) := by decide +kernel
theorem dX5_doesRegret_3 : decode cX5_doesRegret 3 = .ok (.istore_n 3, 1) := by decide +kernel
theorem dX5_doesRegret_4 : decode cX5_doesRegret 4 = .ok (.iload_n 3, 1) := by decide +kernel
theorem dX5_doesRegret_5 : decode cX5_doesRegret 5 = .ok (.bipush 8, 2) := by decide +kernel
theorem dX5_doesRegret_7 : decode cX5_doesRegret 7 = .ok (.if_icmp .ge 58, 3) := by decide +kernel
theorem dX5_doesRegret_10 : decode cX5_doesRegret 10 = .ok (.iload_n 2, 1) := by decide +kernel
theorem dX5_doesRegret_11 : decode cX5_doesRegret 11 = .ok (.ifCond .ne 42, 3) := by decide +kernel
theorem dX5_doesRegret_14 : decode cX5_doesRegret 14 = .ok (.iload_n 3, 1) := by decide +kernel
theorem dX5_doesRegret_15 : decode cX5_doesRegret 15 = .ok (.aload_n 0, 1) := by decide +kernel
theorem dX5_doesRegret_16 : decode cX5_doesRegret 16 = .ok (.getfield 22, 3) := by decide +kernel
theorem dX5_doesRegret_19 : decode cX5_doesRegret 19 = .ok (.iload_n 1, 1) := by decide +kernel
theorem dX5_doesRegret_20 : decode cX5_doesRegret 20 = .ok (.iaload, 1) := by decide +kernel
theorem dX5_doesRegret_21 : decode cX5_doesRegret 21 = .ok (.if_icmp .eq 36, 3) := by decide +kernel
theorem dX5_doesRegret_24 : decode cX5_doesRegret 24 = .ok (.aload_n 0, 1) := by decide +kernel
theorem dX5_doesRegret_25 : decode cX5_doesRegret 25 = .ok (.getfield 9, 3) := by decide +kernel
theorem dX5_doesRegret_28 : decode cX5_doesRegret 28 = .ok (.bipush 13, 2) := by decide +kernel
theorem dX5_doesRegret_30 : decode cX5_doesRegret 30 = .ok (.iload_n 3, 1) := by decide +kernel
theorem dX5_doesRegret_31 : decode cX5_doesRegret 31 = .ok (.iadd, 1) := by decide +kernel
theorem dX5_doesRegret_32 : decode cX5_doesRegret 32 = .ok (.iaload, 1) := by decide +kernel
theorem dX5_doesRegret_33 : decode cX5_doesRegret 33 = .ok (.iconst 1, 1) := by decide +kernel
theorem dX5_doesRegret_34 : decode cX5_doesRegret 34 = .ok (.aload_n 0, 1) := by decide +kernel
theorem dX5_doesRegret_35 : decode cX5_doesRegret 35 = .ok (.iload_n 3, 1) := by decide +kernel
theorem dX5_doesRegret_36 : decode cX5_doesRegret 36 = .ok (.invokevirtual 137, 3) := by decide +kernel
theorem dX5_doesRegret_39 : decode cX5_doesRegret 39 = .ok (.invokestatic 112, 3) := by decide +kernel
theorem dX5_doesRegret_42 : decode cX5_doesRegret 42 = .ok (.iadd, 1) := by decide +kernel
theorem dX5_doesRegret_43 : decode cX5_doesRegret 43 = .ok (.idiv, 1) := by decide +kernel
theorem dX5_doesRegret_44 : decode cX5_doesRegret 44 = .ok (.aload_n 0, 1) := by decide +kernel
theorem dX5_doesRegret_45 : decode cX5_doesRegret 45 = .ok (.getfield 25, 3) := by decide +kernel
theorem dX5_doesRegret_48 : decode cX5_doesRegret 48 = .ok (.iload_n 1, 1) := by decide +kernel
theorem dX5_doesRegret_49 : decode cX5_doesRegret 49 = .ok (.iaload, 1) := by decide +kernel
theorem dX5_doesRegret_50 : decode cX5_doesRegret 50 = .ok (.if_icmp .le 7, 3) := by decide +kernel
theorem dX5_doesRegret_53 : decode cX5_doesRegret 53 = .ok (.iconst 1, 1) := by decide +kernel
theorem dX5_doesRegret_54 : decode cX5_doesRegret 54 = .ok (.goto 4, 3) := by decide +kernel
theorem dX5_doesRegret_57 : decode cX5_doesRegret 57 = .ok (.iconst 0, 1) := by decide +kernel
theorem dX5_doesRegret_58 : decode cX5_doesRegret 58 = .ok (.istore_n 2, 1) := by decide +kernel
theorem dX5_doesRegret_59 : decode cX5_doesRegret 59 = .ok (.iinc 3 1, 3) := by decide +kernel
theorem dX5_doesRegret_62 : decode cX5_doesRegret 62 = .ok (.goto (-58), 3) := by decide +kernel
theorem dX5_doesRegret_65 : decode cX5_doesRegret 65 = .ok (.iload_n 2, 1) := by decide +kernel
theorem dX5_doesRegret_66 : decode cX5_doesRegret 66 = .ok (.ireturn, 1) := by decide +kernel
set_option maxRecDepth 20000 in
theorem ggX5_place_X5_isPlace : GoodIn wsX5_place wsX5_isPlace := goodIn_r _ [6, 7, 8, 5, 9] (by decide +kernel) (by decide +kernel)
set_option maxRecDepth 20000 in
theorem gX5_place_X5_isPlace : GoodIn wsX5_place (va_wsS RX5 88 yX5_isPlace wsX5_isPlace) := goodIn_app (goodIn_of _ (by decide +kernel)) ggX5_place_X5_isPlace
set_option maxRecDepth 20000 in
theorem ggX5_place_X5_within : GoodIn wsX5_place wsX5_within := goodIn_r _ [9] (by decide +kernel) (by decide +kernel)
set_option maxRecDepth 20000 in
theorem gX5_place_X5_within : GoodIn wsX5_place (va_wsS RX5 80 yX5_within wsX5_within) := goodIn_app (goodIn_of _ (by decide +kernel)) ggX5_place_X5_within
set_option maxRecDepth 20000 in
theorem ggX5_place_X5_finding : GoodIn wsX5_place wsX5_finding := goodIn_r _ [13, 14, 1, 64, 65, 66, 67, 68, 69, 70, 71, 72, 73, 74, 75, 76, 77, 78, 79, 80, 81, 82, 83, 84, 85, 86] (by decide +kernel) (by decide +kernel)
set_option maxRecDepth 20000 in
theorem gX5_place_X5_finding : GoodIn wsX5_place (wsV RX5 76 RX5 yX5_finding wsX5_finding) := goodIn_app (goodIn_of _ (by decide +kernel)) ggX5_place_X5_finding
set_option maxRecDepth 20000 in
theorem ggX5_place_X5_looksAt : GoodIn wsX5_place wsX5_looksAt := goodIn_r _ [18, 2, 19, 20, 21, 22, 23, 24, 5, 25, 26, 27, 28, 29, 30, 31, 32, 33, 34, 35, 36, 37, 38, 39, 40, 41, 42, 43, 44, 45, 46, 47, 48, 49, 50, 51, 52, 53, 54, 55, 56, 57, 58, 59, 60, 61, 62, 63, 64, 65, 66, 67, 68, 69, 70, 71, 72, 73, 74, 75, 76, 77, 78, 79, 80, 81, 82, 83, 84, 85, 86] (by decide +kernel) (by decide +kernel)
set_option maxRecDepth 20000 in
theorem gX5_place_X5_looksAt : GoodIn wsX5_place (wsV RX5 140 RX5 yX5_looksAt wsX5_looksAt) := goodIn_app (goodIn_of _ (by decide +kernel)) ggX5_place_X5_looksAt
set_option maxRecDepth 20000 in
theorem ggX5_place_X5_planners : GoodIn wsX5_place wsX5_planners := goodIn_r _ [44, 2, 20, 26, 27, 28, 5, 29, 30, 31, 32, 64, 65, 66, 67, 68, 69, 70, 71, 72, 73, 74, 75, 76, 77, 78, 79, 80, 81, 82, 83, 84, 85, 86] (by decide +kernel) (by decide +kernel)
set_option maxRecDepth 20000 in
theorem gX5_place_X5_planners : GoodIn wsX5_place (wsV RX5 109 RX5 yX5_planners wsX5_planners) := goodIn_app (goodIn_of _ (by decide +kernel)) ggX5_place_X5_planners
set_option maxRecDepth 20000 in
theorem ggX5_place_X5_comers : GoodIn wsX5_place wsX5_comers := goodIn_r _ [63, 2, 19, 64, 65, 66, 67, 68, 69, 70, 71, 72, 73, 74, 75, 76, 77, 78, 79, 80, 81, 82, 83, 84, 85, 86] (by decide +kernel) (by decide +kernel)
set_option maxRecDepth 20000 in
theorem gX5_place_X5_comers : GoodIn wsX5_place (wsV RX5 137 RX5 yX5_comers wsX5_comers) := goodIn_app (goodIn_of _ (by decide +kernel)) ggX5_place_X5_comers
theorem dX5_place_0 : decode cX5_place 0 = .ok (.iload_n 1, 1) := by decide +kernel
theorem dX5_place_1 : decode cX5_place 1 = .ok (.invokestatic 88, 3) := by decide +kernel
theorem dX5_place_4 : decode cX5_place 4 = .ok (.ifCond .eq 12, 3) := by decide +kernel
theorem dX5_place_7 : decode cX5_place 7 = .ok (.iload_n 2, 1) := by decide +kernel
theorem dX5_place_8 : decode cX5_place 8 = .ok (.iconst 0, 1) := by decide +kernel
theorem dX5_place_9 : decode cX5_place 9 = .ok (.iconst 2, 1) := by decide +kernel
theorem dX5_place_10 : decode cX5_place 10 = .ok (.invokestatic 80, 3) := by decide +kernel
theorem dX5_place_13 : decode cX5_place 13 = .ok (.ifCond .ne 10, 3) := by decide +kernel
theorem dX5_place_16 : decode cX5_place 16 = .ok (.aload_n 0, 1) := by decide +kernel
theorem dX5_place_17 : decode cX5_place 17 = .ok (.ldc 70, 2) := by decide +kernel
theorem dX5_place_19 : decode cX5_place 19 = .ok (.invokevirtual 76, 3) := by decide +kernel
theorem dX5_place_22 : decode cX5_place 22 = .ok (.ireturn, 1) := by decide +kernel
theorem dX5_place_23 : decode cX5_place 23 = .ok (.aload_n 0, 1) := by decide +kernel
theorem dX5_place_24 : decode cX5_place 24 = .ok (.invokevirtual 140, 3) := by decide +kernel
theorem dX5_place_27 : decode cX5_place 27 = .ok (.iload_n 2, 1) := by decide +kernel
theorem dX5_place_28 : decode cX5_place 28 = .ok (.ifCond .ne 15, 3) := by decide +kernel
theorem dX5_place_31 : decode cX5_place 31 = .ok (.aload_n 0, 1) := by decide +kernel
theorem dX5_place_32 : decode cX5_place 32 = .ok (.getfield 9, 3) := by decide +kernel
theorem dX5_place_35 : decode cX5_place 35 = .ok (.bipush 13, 2) := by decide +kernel
theorem dX5_place_37 : decode cX5_place 37 = .ok (.iload_n 1, 1) := by decide +kernel
theorem dX5_place_38 : decode cX5_place 38 = .ok (.iadd, 1) := by decide +kernel
theorem dX5_place_39 : decode cX5_place 39 = .ok (.iaload, 1) := by decide +kernel
theorem dX5_place_40 : decode cX5_place 40 = .ok (.goto 21, 3) := by decide +kernel
theorem dX5_place_43 : decode cX5_place 43 = .ok (.iload_n 2, 1) := by decide +kernel
theorem dX5_place_44 : decode cX5_place 44 = .ok (.iconst 1, 1) := by decide +kernel
theorem dX5_place_45 : decode cX5_place 45 = .ok (.if_icmp .ne 11, 3) := by decide +kernel
theorem dX5_place_48 : decode cX5_place 48 = .ok (.aload_n 0, 1) := by decide +kernel
theorem dX5_place_49 : decode cX5_place 49 = .ok (.iload_n 1, 1) := by decide +kernel
theorem dX5_place_50 : decode cX5_place 50 = .ok (.invokevirtual 109, 3) := by decide +kernel
theorem dX5_place_53 : decode cX5_place 53 = .ok (.goto 8, 3) := by decide +kernel
theorem dX5_place_56 : decode cX5_place 56 = .ok (.aload_n 0, 1) := by decide +kernel
theorem dX5_place_57 : decode cX5_place 57 = .ok (.iload_n 1, 1) := by decide +kernel
theorem dX5_place_58 : decode cX5_place 58 = .ok (.invokevirtual 137, 3) := by decide +kernel
theorem dX5_place_61 : decode cX5_place 61 = .ok (.ireturn, 1) := by decide +kernel
set_option maxRecDepth 20000 in
theorem ggX5_of_X5_isPerson : GoodIn wsX5_of wsX5_isPerson := goodIn_r _ [8, 9, 10, 11, 7, 12, 69, 70, 71, 72, 73, 74, 75, 76, 77, 78, 79, 80, 81, 82, 83, 84, 85, 86, 87, 88, 89, 90, 91] (by decide +kernel) (by decide +kernel)
set_option maxRecDepth 20000 in
theorem gX5_of_X5_isPerson : GoodIn wsX5_of (wsV RX5 143 RX5 yX5_isPerson wsX5_isPerson) := goodIn_app (goodIn_of _ (by decide +kernel)) ggX5_of_X5_isPerson
set_option maxRecDepth 20000 in
theorem ggX5_of_X5_within : GoodIn wsX5_of wsX5_within := goodIn_r _ [12] (by decide +kernel) (by decide +kernel)
set_option maxRecDepth 20000 in
theorem gX5_of_X5_within : GoodIn wsX5_of (va_wsS RX5 80 yX5_within wsX5_within) := goodIn_app (goodIn_of _ (by decide +kernel)) ggX5_of_X5_within
set_option maxRecDepth 20000 in
theorem ggX5_of_X5_finding : GoodIn wsX5_of wsX5_finding := goodIn_r _ [16, 17, 1, 69, 70, 71, 72, 73, 74, 75, 76, 77, 78, 79, 80, 81, 82, 83, 84, 85, 86, 87, 88, 89, 90, 91] (by decide +kernel) (by decide +kernel)
set_option maxRecDepth 20000 in
theorem gX5_of_X5_finding : GoodIn wsX5_of (wsV RX5 76 RX5 yX5_finding wsX5_finding) := goodIn_app (goodIn_of _ (by decide +kernel)) ggX5_of_X5_finding
set_option maxRecDepth 20000 in
theorem ggX5_of_X5_looksAt : GoodIn wsX5_of wsX5_looksAt := goodIn_r _ [21, 9, 2, 22, 3, 23, 24, 25, 7, 26, 27, 28, 29, 30, 31, 32, 33, 34, 35, 36, 37, 38, 39, 40, 41, 42, 43, 44, 45, 46, 47, 48, 49, 50, 51, 52, 53, 54, 55, 56, 57, 58, 59, 60, 61, 62, 63, 64, 69, 70, 71, 72, 73, 74, 75, 76, 77, 78, 79, 80, 81, 82, 83, 84, 85, 86, 87, 88, 89, 90, 91] (by decide +kernel) (by decide +kernel)
set_option maxRecDepth 20000 in
theorem gX5_of_X5_looksAt : GoodIn wsX5_of (wsV RX5 140 RX5 yX5_looksAt wsX5_looksAt) := goodIn_app (goodIn_of _ (by decide +kernel)) ggX5_of_X5_looksAt
set_option maxRecDepth 20000 in
theorem ggX5_of_X5_doesRegret : GoodIn wsX5_of wsX5_doesRegret := goodIn_r _ [68, 2, 9, 3, 61, 62, 63, 7, 64, 46, 47, 48, 69, 70, 71, 72, 73, 74, 75, 76, 77, 78, 79, 80, 81, 82, 83, 84, 85, 86, 87, 88, 89, 90, 91] (by decide +kernel) (by decide +kernel)
set_option maxRecDepth 20000 in
theorem gX5_of_X5_doesRegret : GoodIn wsX5_of (wsV RX5 146 RX5 yX5_doesRegret wsX5_doesRegret) := goodIn_app (goodIn_of _ (by decide +kernel)) ggX5_of_X5_doesRegret
set_option maxRecDepth 20000 in
theorem ggX5_of_X5_personIs : GoodIn wsX5_of wsX5_personIs := goodIn_r _ [30, 9, 31, 32, 7, 33, 69, 70, 71, 72, 73, 74, 75, 76, 77, 78, 79, 80, 81, 82, 83, 84, 85, 86, 87, 88, 89, 90, 91] (by decide +kernel) (by decide +kernel)
set_option maxRecDepth 20000 in
theorem gX5_of_X5_personIs : GoodIn wsX5_of (wsV RX5 106 RX5 yX5_personIs wsX5_personIs) := goodIn_app (goodIn_of _ (by decide +kernel)) ggX5_of_X5_personIs
theorem dX5_of_0 : decode cX5_of 0 = .ok (.aload_n 0, 1) := by decide +kernel
theorem dX5_of_1 : decode cX5_of 1 = .ok (.iload_n 1, 1) := by decide +kernel
theorem dX5_of_2 : decode cX5_of 2 = .ok (.invokevirtual 143, 3) := by decide +kernel
theorem dX5_of_5 : decode cX5_of 5 = .ok (.ifCond .eq 13, 3) := by decide +kernel
theorem dX5_of_8 : decode cX5_of 8 = .ok (.iload_n 2, 1) := by decide +kernel
theorem dX5_of_9 : decode cX5_of 9 = .ok (.iconst 0, 1) := by decide +kernel
theorem dX5_of_10 : decode cX5_of 10 = .ok (.bipush 7, 2) := by decide +kernel
theorem dX5_of_12 : decode cX5_of 12 = .ok (.invokestatic 80, 3) := by decide +kernel
theorem dX5_of_15 : decode cX5_of 15 = .ok (.ifCond .ne 10, 3) := by decide +kernel
theorem dX5_of_18 : decode cX5_of 18 = .ok (.aload_n 0, 1) := by decide +kernel
theorem dX5_of_19 : decode cX5_of 19 = .ok (.ldc 70, 2) := by decide +kernel
theorem dX5_of_21 : decode cX5_of 21 = .ok (.invokevirtual 76, 3) := by decide +kernel
theorem dX5_of_24 : decode cX5_of 24 = .ok (.ireturn, 1) := by decide +kernel
theorem dX5_of_25 : decode cX5_of 25 = .ok (.aload_n 0, 1) := by decide +kernel
theorem dX5_of_26 : decode cX5_of 26 = .ok (.invokevirtual 140, 3) := by decide +kernel
theorem dX5_of_29 : decode cX5_of 29 = .ok (.iload_n 2, 1) := by decide +kernel
theorem dX5_of_30 : decode cX5_of 30 = .ok (.tableswitch 54 5 7 #[26, 33, 40], 26) := by decide +kernel
theorem dX5_of_56 : decode cX5_of 56 = .ok (.aload_n 0, 1) := by decide +kernel
theorem dX5_of_57 : decode cX5_of 57 = .ok (.getfield 22, 3) := by decide +kernel
theorem dX5_of_60 : decode cX5_of 60 = .ok (.iload_n 1, 1) := by decide +kernel
theorem dX5_of_61 : decode cX5_of 61 = .ok (.iaload, 1) := by decide +kernel
theorem dX5_of_62 : decode cX5_of 62 = .ok (.ireturn, 1) := by decide +kernel
theorem dX5_of_63 : decode cX5_of 63 = .ok (.aload_n 0, 1) := by decide +kernel
theorem dX5_of_64 : decode cX5_of 64 = .ok (.getfield 25, 3) := by decide +kernel
theorem dX5_of_67 : decode cX5_of 67 = .ok (.iload_n 1, 1) := by decide +kernel
theorem dX5_of_68 : decode cX5_of 68 = .ok (.iaload, 1) := by decide +kernel
theorem dX5_of_69 : decode cX5_of 69 = .ok (.ireturn, 1) := by decide +kernel
theorem dX5_of_70 : decode cX5_of 70 = .ok (.aload_n 0, 1) := by decide +kernel
theorem dX5_of_71 : decode cX5_of 71 = .ok (.iload_n 1, 1) := by decide +kernel
theorem dX5_of_72 : decode cX5_of 72 = .ok (.invokevirtual 146, 3) := by decide +kernel
theorem dX5_of_75 : decode cX5_of 75 = .ok (.ifCond .eq 7, 3) := by decide +kernel
theorem dX5_of_78 : decode cX5_of 78 = .ok (.iconst 1, 1) := by decide +kernel
theorem dX5_of_79 : decode cX5_of 79 = .ok (.goto 4, 3) := by decide +kernel
theorem dX5_of_82 : decode cX5_of 82 = .ok (.iconst 0, 1) := by decide +kernel
theorem dX5_of_83 : decode cX5_of 83 = .ok (.ireturn, 1) := by decide +kernel
theorem dX5_of_84 : decode cX5_of 84 = .ok (.aload_n 0, 1) := by decide +kernel
theorem dX5_of_85 : decode cX5_of 85 = .ok (.iload_n 1, 1) := by decide +kernel
theorem dX5_of_86 : decode cX5_of 86 = .ok (.iload_n 2, 1) := by decide +kernel
theorem dX5_of_87 : decode cX5_of 87 = .ok (.invokevirtual 106, 3) := by decide +kernel
theorem dX5_of_90 : decode cX5_of 90 = .ok (.ireturn, 1) := by decide +kernel
set_option maxRecDepth 20000 in
theorem ggX5_mayBe_X5_isKind : GoodIn wsX5_mayBe wsX5_isKind := goodIn_r _ [5, 6, 7, 4, 8] (by decide +kernel) (by decide +kernel)
set_option maxRecDepth 20000 in
theorem gX5_mayBe_X5_isKind : GoodIn wsX5_mayBe (va_wsS RX5 98 yX5_isKind wsX5_isKind) := goodIn_app (goodIn_of _ (by decide +kernel)) ggX5_mayBe_X5_isKind
set_option maxRecDepth 20000 in
theorem ggX5_mayBe_X5_isPlace : GoodIn wsX5_mayBe wsX5_isPlace := goodIn_r _ [11, 6, 7, 4, 8] (by decide +kernel) (by decide +kernel)
set_option maxRecDepth 20000 in
theorem gX5_mayBe_X5_isPlace : GoodIn wsX5_mayBe (va_wsS RX5 88 yX5_isPlace wsX5_isPlace) := goodIn_app (goodIn_of _ (by decide +kernel)) ggX5_mayBe_X5_isPlace
set_option maxRecDepth 20000 in
theorem ggX5_mayBe_X5_isPerson : GoodIn wsX5_mayBe wsX5_isPerson := goodIn_r _ [15, 16, 6, 7, 4, 8, 17, 18, 19, 20, 21, 22, 23, 24, 25, 26, 27, 28, 29, 30, 31, 32, 33, 34, 35, 36, 37, 38, 39] (by decide +kernel) (by decide +kernel)
set_option maxRecDepth 20000 in
theorem gX5_mayBe_X5_isPerson : GoodIn wsX5_mayBe (wsV RX5 143 RX5 yX5_isPerson wsX5_isPerson) := goodIn_app (goodIn_of _ (by decide +kernel)) ggX5_mayBe_X5_isPerson
set_option maxRecDepth 20000 in
theorem ggX5_mayBe_X5_within : GoodIn wsX5_mayBe wsX5_within := goodIn_r _ [8] (by decide +kernel) (by decide +kernel)
set_option maxRecDepth 20000 in
theorem gX5_mayBe_X5_within : GoodIn wsX5_mayBe (va_wsS RX5 80 yX5_within wsX5_within) := goodIn_app (goodIn_of _ (by decide +kernel)) ggX5_mayBe_X5_within
theorem dX5_mayBe_0 : decode cX5_mayBe 0 = .ok (.iload_n 2, 1) := by decide +kernel
theorem dX5_mayBe_1 : decode cX5_mayBe 1 = .ok (.tableswitch 77 0 4 #[35, 40, 40, 45, 69], 35) := by decide +kernel
theorem dX5_mayBe_36 : decode cX5_mayBe 36 = .ok (.iload_n 3, 1) := by decide +kernel
theorem dX5_mayBe_37 : decode cX5_mayBe 37 = .ok (.invokestatic 98, 3) := by decide +kernel
theorem dX5_mayBe_40 : decode cX5_mayBe 40 = .ok (.ireturn, 1) := by decide +kernel
theorem dX5_mayBe_41 : decode cX5_mayBe 41 = .ok (.iload_n 3, 1) := by decide +kernel
theorem dX5_mayBe_42 : decode cX5_mayBe 42 = .ok (.invokestatic 88, 3) := by decide +kernel
theorem dX5_mayBe_45 : decode cX5_mayBe 45 = .ok (.ireturn, 1) := by decide +kernel
theorem dX5_mayBe_46 : decode cX5_mayBe 46 = .ok (.iload_n 3, 1) := by decide +kernel
theorem dX5_mayBe_47 : decode cX5_mayBe 47 = .ok (.iconst (-1), 1) := by decide +kernel
theorem dX5_mayBe_48 : decode cX5_mayBe 48 = .ok (.if_icmp .eq 16, 3) := by decide +kernel
theorem dX5_mayBe_51 : decode cX5_mayBe 51 = .ok (.aload_n 0, 1) := by decide +kernel
theorem dX5_mayBe_52 : decode cX5_mayBe 52 = .ok (.iload_n 3, 1) := by decide +kernel
theorem dX5_mayBe_53 : decode cX5_mayBe 53 = .ok (.invokevirtual 143, 3) := by decide +kernel
theorem dX5_mayBe_56 : decode cX5_mayBe 56 = .ok (.ifCond .eq 12, 3) := by decide +kernel
theorem dX5_mayBe_59 : decode cX5_mayBe 59 = .ok (.iload_n 3, 1) := by decide +kernel
theorem dX5_mayBe_60 : decode cX5_mayBe 60 = .ok (.iload_n 1, 1) := by decide +kernel
theorem dX5_mayBe_61 : decode cX5_mayBe 61 = .ok (.if_icmp .eq 7, 3) := by decide +kernel
theorem dX5_mayBe_64 : decode cX5_mayBe 64 = .ok (.iconst 1, 1) := by decide +kernel
theorem dX5_mayBe_65 : decode cX5_mayBe 65 = .ok (.goto 4, 3) := by decide +kernel
theorem dX5_mayBe_68 : decode cX5_mayBe 68 = .ok (.iconst 0, 1) := by decide +kernel
theorem dX5_mayBe_69 : decode cX5_mayBe 69 = .ok (.ireturn, 1) := by decide +kernel
theorem dX5_mayBe_70 : decode cX5_mayBe 70 = .ok (.iload_n 3, 1) := by decide +kernel
theorem dX5_mayBe_71 : decode cX5_mayBe 71 = .ok (.iconst 0, 1) := by decide +kernel
theorem dX5_mayBe_72 : decode cX5_mayBe 72 = .ok (.ldc 149, 2) := by decide +kernel
theorem dX5_mayBe_74 : decode cX5_mayBe 74 = .ok (.invokestatic 80, 3) := by decide +kernel
theorem dX5_mayBe_77 : decode cX5_mayBe 77 = .ok (.ireturn, 1) := by decide +kernel
theorem dX5_mayBe_78 : decode cX5_mayBe 78 = .ok (.iconst 0, 1) := by decide +kernel
theorem dX5_mayBe_79 : decode cX5_mayBe 79 = .ok (.ireturn, 1) := by decide +kernel
set_option maxRecDepth 20000 in
theorem ggX5_change_X5_isPerson : GoodIn wsX5_change wsX5_isPerson := goodIn_r _ [6, 7, 8, 9, 5, 10, 34, 35, 36, 37, 38, 39, 40, 41, 42, 43, 44, 45, 46, 47, 48, 49, 50, 51, 52, 53, 54, 55, 56] (by decide +kernel) (by decide +kernel)
set_option maxRecDepth 20000 in
theorem gX5_change_X5_isPerson : GoodIn wsX5_change (wsV RX5 143 RX5 yX5_isPerson wsX5_isPerson) := goodIn_app (goodIn_of _ (by decide +kernel)) ggX5_change_X5_isPerson
set_option maxRecDepth 20000 in
theorem ggX5_change_X5_mayBe : GoodIn wsX5_change wsX5_mayBe := goodIn_r _ [14, 15, 16, 17, 5, 18, 8, 9, 10, 19, 20, 21, 2, 3, 4, 6, 7, 34, 35, 36, 37, 38, 39, 40, 41, 42, 43, 44, 45, 46, 47, 48, 49, 50, 51, 52, 53, 54, 55, 56] (by decide +kernel) (by decide +kernel)
set_option maxRecDepth 20000 in
theorem gX5_change_X5_mayBe : GoodIn wsX5_change (wsV RX5 150 RX5 yX5_mayBe wsX5_mayBe) := goodIn_app (goodIn_of _ (by decide +kernel)) ggX5_change_X5_mayBe
set_option maxRecDepth 20000 in
theorem ggX5_change_X5_at : GoodIn wsX5_change wsX5_at := goodIn_r _ [24] (by decide +kernel) (by decide +kernel)
set_option maxRecDepth 20000 in
theorem gX5_change_X5_at : GoodIn wsX5_change (va_wsS RX5 84 yX5_at wsX5_at) := goodIn_app (goodIn_of _ (by decide +kernel)) ggX5_change_X5_at
set_option maxRecDepth 20000 in
theorem ggX5_change_X5_become : GoodIn wsX5_change wsX5_become := goodIn_r _ [28, 7, 34, 35, 36, 37, 38, 39, 40, 41, 42, 43, 44, 45, 46, 47, 48, 49, 50, 51, 52, 53, 54, 55, 56] (by decide +kernel) (by decide +kernel)
set_option maxRecDepth 20000 in
theorem gX5_change_X5_become : GoodIn wsX5_change (wsV RX5 95 RX5 yX5_become wsX5_become) := goodIn_app (goodIn_of _ (by decide +kernel)) ggX5_change_X5_become
set_option maxRecDepth 20000 in
theorem ggX5_change_X5_finding : GoodIn wsX5_change wsX5_finding := goodIn_r _ [32, 33, 1, 34, 35, 36, 37, 38, 39, 40, 41, 42, 43, 44, 45, 46, 47, 48, 49, 50, 51, 52, 53, 54, 55, 56] (by decide +kernel) (by decide +kernel)
set_option maxRecDepth 20000 in
theorem gX5_change_X5_finding : GoodIn wsX5_change (wsV RX5 76 RX5 yX5_finding wsX5_finding) := goodIn_app (goodIn_of _ (by decide +kernel)) ggX5_change_X5_finding
theorem dX5_change_0 : decode cX5_change 0 = .ok (.aload_n 0, 1) := by decide +kernel
theorem dX5_change_1 : decode cX5_change 1 = .ok (.iload_n 1, 1) := by decide +kernel
theorem dX5_change_2 : decode cX5_change 2 = .ok (.invokevirtual 143, 3) := by decide +kernel
theorem dX5_change_5 : decode cX5_change 5 = .ok (.ifCond .eq 26, 3) := by decide +kernel
theorem dX5_change_8 : decode cX5_change 8 = .ok (.aload_n 0, 1) := by decide +kernel
theorem dX5_change_9 : decode cX5_change 9 = .ok (.iload_n 1, 1) := by decide +kernel
theorem dX5_change_10 : decode cX5_change 10 = .ok (.iload_n 2, 1) := by decide +kernel
theorem dX5_change_11 : decode cX5_change 11 = .ok (.iload_n 3, 1) := by decide +kernel
theorem dX5_change_12 : decode cX5_change 12 = .ok (.invokevirtual 150, 3) := by decide +kernel
theorem dX5_change_15 : decode cX5_change 15 = .ok (.ifCond .eq 16, 3) := by decide +kernel
theorem dX5_change_18 : decode cX5_change 18 = .ok (.aload_n 0, 1) := by decide +kernel
theorem dX5_change_19 : decode cX5_change 19 = .ok (.iload_n 1, 1) := by decide +kernel
theorem dX5_change_20 : decode cX5_change 20 = .ok (.iload_n 2, 1) := by decide +kernel
theorem dX5_change_21 : decode cX5_change 21 = .ok (.invokestatic 84, 3) := by decide +kernel
theorem dX5_change_24 : decode cX5_change 24 = .ok (.iload_n 3, 1) := by decide +kernel
theorem dX5_change_25 : decode cX5_change 25 = .ok (.invokevirtual 95, 3) := by decide +kernel
theorem dX5_change_28 : decode cX5_change 28 = .ok (.goto 9, 3) := by decide +kernel
theorem dX5_change_31 : decode cX5_change 31 = .ok (.aload_n 0, 1) := by decide +kernel
theorem dX5_change_32 : decode cX5_change 32 = .ok (.ldc 70, 2) := by decide +kernel
theorem dX5_change_34 : decode cX5_change 34 = .ok (.invokevirtual 76, 3) := by decide +kernel
theorem dX5_change_37 : decode cX5_change 37 = .ok (.ireturn, 1) := by decide +kernel
set_option maxRecDepth 20000 in
theorem ggX5_seen_X5_isPerson : GoodIn wsX5_seen wsX5_isPerson := goodIn_r _ [7, 8, 9, 10, 6, 11, 47, 48, 49, 50, 51, 52, 53, 54, 55, 56, 57, 58, 59, 60, 61, 62, 63, 64, 65, 66, 67, 68, 69] (by decide +kernel) (by decide +kernel)
set_option maxRecDepth 20000 in
theorem gX5_seen_X5_isPerson : GoodIn wsX5_seen (wsV RX5 143 RX5 yX5_isPerson wsX5_isPerson) := goodIn_app (goodIn_of _ (by decide +kernel)) ggX5_seen_X5_isPerson
set_option maxRecDepth 20000 in
theorem ggX5_seen_X5_isPlace : GoodIn wsX5_seen wsX5_isPlace := goodIn_r _ [14, 9, 10, 6, 11] (by decide +kernel) (by decide +kernel)
set_option maxRecDepth 20000 in
theorem gX5_seen_X5_isPlace : GoodIn wsX5_seen (va_wsS RX5 88 yX5_isPlace wsX5_isPlace) := goodIn_app (goodIn_of _ (by decide +kernel)) ggX5_seen_X5_isPlace
set_option maxRecDepth 20000 in
theorem ggX5_seen_X5_finding : GoodIn wsX5_seen wsX5_finding := goodIn_r _ [18, 19, 1, 47, 48, 49, 50, 51, 52, 53, 54, 55, 56, 57, 58, 59, 60, 61, 62, 63, 64, 65, 66, 67, 68, 69] (by decide +kernel) (by decide +kernel)
set_option maxRecDepth 20000 in
theorem gX5_seen_X5_finding : GoodIn wsX5_seen (wsV RX5 76 RX5 yX5_finding wsX5_finding) := goodIn_app (goodIn_of _ (by decide +kernel)) ggX5_seen_X5_finding
set_option maxRecDepth 20000 in
theorem ggX5_seen_X5_canSee : GoodIn wsX5_seen wsX5_canSee := goodIn_r _ [23, 24, 25, 26, 27, 28, 29, 30, 6, 31, 8, 32, 33, 34, 47, 48, 49, 50, 51, 52, 53, 54, 55, 56, 57, 58, 59, 60, 61, 62, 63, 64, 65, 66, 67, 68, 69] (by decide +kernel) (by decide +kernel)
set_option maxRecDepth 20000 in
theorem gX5_seen_X5_canSee : GoodIn wsX5_seen (wsV RX5 130 RX5 yX5_canSee wsX5_canSee) := goodIn_app (goodIn_of _ (by decide +kernel)) ggX5_seen_X5_canSee
set_option maxRecDepth 20000 in
theorem ggX5_seen_X5_seenAt : GoodIn wsX5_seen wsX5_seenAt := goodIn_r _ [38, 39, 40, 41, 6, 42, 8, 43, 28, 29, 30, 31, 32, 33, 34, 44, 45, 46, 47, 48, 49, 50, 51, 52, 53, 54, 55, 56, 57, 58, 59, 60, 61, 62, 63, 64, 65, 66, 67, 68, 69] (by decide +kernel) (by decide +kernel)
set_option maxRecDepth 20000 in
theorem gX5_seen_X5_seenAt : GoodIn wsX5_seen (wsV RX5 120 RX5 yX5_seenAt wsX5_seenAt) := goodIn_app (goodIn_of _ (by decide +kernel)) ggX5_seen_X5_seenAt
theorem dX5_seen_0 : decode cX5_seen 0 = .ok (.aload_n 0, 1) := by decide +kernel
theorem dX5_seen_1 : decode cX5_seen 1 = .ok (.iload_n 1, 1) := by decide +kernel
theorem dX5_seen_2 : decode cX5_seen 2 = .ok (.invokevirtual 143, 3) := by decide +kernel
theorem dX5_seen_5 : decode cX5_seen 5 = .ok (.ifCond .eq 10, 3) := by decide +kernel
theorem dX5_seen_8 : decode cX5_seen 8 = .ok (.iload_n 2, 1) := by decide +kernel
theorem dX5_seen_9 : decode cX5_seen 9 = .ok (.invokestatic 88, 3) := by decide +kernel
theorem dX5_seen_12 : decode cX5_seen 12 = .ok (.ifCond .ne 10, 3) := by decide +kernel
theorem dX5_seen_15 : decode cX5_seen 15 = .ok (.aload_n 0, 1) := by decide +kernel
theorem dX5_seen_16 : decode cX5_seen 16 = .ok (.ldc 70, 2) := by decide +kernel
theorem dX5_seen_18 : decode cX5_seen 18 = .ok (.invokevirtual 76, 3) := by decide +kernel
theorem dX5_seen_21 : decode cX5_seen 21 = .ok (.ireturn, 1) := by decide +kernel
theorem dX5_seen_22 : decode cX5_seen 22 = .ok (.aload_n 0, 1) := by decide +kernel
theorem dX5_seen_23 : decode cX5_seen 23 = .ok (.iload_n 1, 1) := by decide +kernel
theorem dX5_seen_24 : decode cX5_seen 24 = .ok (.iload_n 2, 1) := by decide +kernel
theorem dX5_seen_25 : decode cX5_seen 25 = .ok (.invokevirtual 130, 3) := by decide +kernel
theorem dX5_seen_28 : decode cX5_seen 28 = .ok (.ifCond .eq 12, 3) := by decide +kernel
theorem dX5_seen_31 : decode cX5_seen 31 = .ok (.aload_n 0, 1) := by decide +kernel
theorem dX5_seen_32 : decode cX5_seen 32 = .ok (.iload_n 1, 1) := by decide +kernel
theorem dX5_seen_33 : decode cX5_seen 33 = .ok (.iload_n 2, 1) := by decide +kernel
theorem dX5_seen_34 : decode cX5_seen 34 = .ok (.invokevirtual 120, 3) := by decide +kernel
theorem dX5_seen_37 : decode cX5_seen 37 = .ok (.goto 9, 3) := by decide +kernel
theorem dX5_seen_40 : decode cX5_seen 40 = .ok (.aload_n 0, 1) := by decide +kernel
theorem dX5_seen_41 : decode cX5_seen 41 = .ok (.ldc 75, 2) := by decide +kernel
theorem dX5_seen_43 : decode cX5_seen 43 = .ok (.invokevirtual 76, 3) := by decide +kernel
theorem dX5_seen_46 : decode cX5_seen 46 = .ok (.ireturn, 1) := by decide +kernel
set_option maxRecDepth 20000 in
theorem ggX5_wishes_X5_isPerson : GoodIn wsX5_wishes wsX5_isPerson := goodIn_r _ [7, 8, 9, 10, 6, 11, 55, 56, 57, 58, 59, 60, 61, 62, 63, 64, 65, 66, 67, 68, 69, 70, 71, 72, 73, 74, 75, 76, 77] (by decide +kernel) (by decide +kernel)
set_option maxRecDepth 20000 in
theorem gX5_wishes_X5_isPerson : GoodIn wsX5_wishes (wsV RX5 143 RX5 yX5_isPerson wsX5_isPerson) := goodIn_app (goodIn_of _ (by decide +kernel)) ggX5_wishes_X5_isPerson
set_option maxRecDepth 20000 in
theorem ggX5_wishes_X5_isPlace : GoodIn wsX5_wishes wsX5_isPlace := goodIn_r _ [14, 9, 10, 6, 11] (by decide +kernel) (by decide +kernel)
set_option maxRecDepth 20000 in
theorem gX5_wishes_X5_isPlace : GoodIn wsX5_wishes (va_wsS RX5 88 yX5_isPlace wsX5_isPlace) := goodIn_app (goodIn_of _ (by decide +kernel)) ggX5_wishes_X5_isPlace
set_option maxRecDepth 20000 in
theorem ggX5_wishes_X5_finding : GoodIn wsX5_wishes wsX5_finding := goodIn_r _ [18, 19, 1, 55, 56, 57, 58, 59, 60, 61, 62, 63, 64, 65, 66, 67, 68, 69, 70, 71, 72, 73, 74, 75, 76, 77] (by decide +kernel) (by decide +kernel)
set_option maxRecDepth 20000 in
theorem gX5_wishes_X5_finding : GoodIn wsX5_wishes (wsV RX5 76 RX5 yX5_finding wsX5_finding) := goodIn_app (goodIn_of _ (by decide +kernel)) ggX5_wishes_X5_finding
set_option maxRecDepth 20000 in
theorem ggX5_wishes_X5_canSee : GoodIn wsX5_wishes wsX5_canSee := goodIn_r _ [23, 24, 25, 26, 27, 28, 29, 30, 6, 31, 8, 32, 33, 34, 55, 56, 57, 58, 59, 60, 61, 62, 63, 64, 65, 66, 67, 68, 69, 70, 71, 72, 73, 74, 75, 76, 77] (by decide +kernel) (by decide +kernel)
set_option maxRecDepth 20000 in
theorem gX5_wishes_X5_canSee : GoodIn wsX5_wishes (wsV RX5 130 RX5 yX5_canSee wsX5_canSee) := goodIn_app (goodIn_of _ (by decide +kernel)) ggX5_wishes_X5_canSee
set_option maxRecDepth 20000 in
theorem ggX5_wishes_X5_wishAt : GoodIn wsX5_wishes wsX5_wishAt := goodIn_r _ [38, 8, 39, 40, 41, 6, 42, 43, 44, 45, 46, 47, 28, 29, 30, 31, 32, 33, 34, 48, 49, 50, 51, 52, 53, 54, 55, 56, 57, 58, 59, 60, 61, 62, 63, 64, 65, 66, 67, 68, 69, 70, 71, 72, 73, 74, 75, 76, 77] (by decide +kernel) (by decide +kernel)
set_option maxRecDepth 20000 in
theorem gX5_wishes_X5_wishAt : GoodIn wsX5_wishes (wsV RX5 127 RX5 yX5_wishAt wsX5_wishAt) := goodIn_app (goodIn_of _ (by decide +kernel)) ggX5_wishes_X5_wishAt
theorem dX5_wishes_0 : decode cX5_wishes 0 = .ok (.aload_n 0, 1) := by decide +kernel
theorem dX5_wishes_1 : decode cX5_wishes 1 = .ok (.iload_n 1, 1) := by decide +kernel
theorem dX5_wishes_2 : decode cX5_wishes 2 = .ok (.invokevirtual 143, 3) := by decide +kernel
theorem dX5_wishes_5 : decode cX5_wishes 5 = .ok (.ifCond .eq 10, 3) := by decide +kernel
theorem dX5_wishes_8 : decode cX5_wishes 8 = .ok (.iload_n 2, 1) := by decide +kernel
theorem dX5_wishes_9 : decode cX5_wishes 9 = .ok (.invokestatic 88, 3) := by decide +kernel
theorem dX5_wishes_12 : decode cX5_wishes 12 = .ok (.ifCond .ne 10, 3) := by decide +kernel
theorem dX5_wishes_15 : decode cX5_wishes 15 = .ok (.aload_n 0, 1) := by decide +kernel
theorem dX5_wishes_16 : decode cX5_wishes 16 = .ok (.ldc 70, 2) := by decide +kernel
theorem dX5_wishes_18 : decode cX5_wishes 18 = .ok (.invokevirtual 76, 3) := by decide +kernel
theorem dX5_wishes_21 : decode cX5_wishes 21 = .ok (.ireturn, 1) := by decide +kernel
theorem dX5_wishes_22 : decode cX5_wishes 22 = .ok (.aload_n 0, 1) := by decide +kernel
theorem dX5_wishes_23 : decode cX5_wishes 23 = .ok (.iload_n 1, 1) := by decide +kernel
theorem dX5_wishes_24 : decode cX5_wishes 24 = .ok (.iload_n 2, 1) := by decide +kernel
theorem dX5_wishes_25 : decode cX5_wishes 25 = .ok (.invokevirtual 130, 3) := by decide +kernel
theorem dX5_wishes_28 : decode cX5_wishes 28 = .ok (.ifCond .eq 12, 3) := by decide +kernel
theorem dX5_wishes_31 : decode cX5_wishes 31 = .ok (.aload_n 0, 1) := by decide +kernel
theorem dX5_wishes_32 : decode cX5_wishes 32 = .ok (.iload_n 1, 1) := by decide +kernel
theorem dX5_wishes_33 : decode cX5_wishes 33 = .ok (.iload_n 2, 1) := by decide +kernel
theorem dX5_wishes_34 : decode cX5_wishes 34 = .ok (.invokevirtual 127, 3) := by decide +kernel
theorem dX5_wishes_37 : decode cX5_wishes 37 = .ok (.goto 9, 3) := by decide +kernel
theorem dX5_wishes_40 : decode cX5_wishes 40 = .ok (.aload_n 0, 1) := by decide +kernel
theorem dX5_wishes_41 : decode cX5_wishes 41 = .ok (.ldc 75, 2) := by decide +kernel
theorem dX5_wishes_43 : decode cX5_wishes 43 = .ok (.invokevirtual 76, 3) := by decide +kernel
theorem dX5_wishes_46 : decode cX5_wishes 46 = .ok (.ireturn, 1) := by decide +kernel
set_option maxRecDepth 20000 in
theorem ggX5_goes_X5_looksAt : GoodIn wsX5_goes wsX5_looksAt := goodIn_r _ [14, 1, 9, 8, 3, 15, 16, 17, 13, 18, 19, 20, 21, 22, 23, 24, 25, 26, 27, 28, 29, 30, 31, 32, 33, 34, 35, 36, 37, 38, 39, 40, 41, 42, 43, 44, 45, 46, 47, 48, 49, 50, 6, 51, 52, 53, 54, 55, 56, 57, 58, 59, 60, 61, 62, 63, 64, 65, 66, 67, 68, 69, 70, 71, 72, 73, 74, 75, 76, 77, 78] (by decide +kernel) (by decide +kernel)
set_option maxRecDepth 20000 in
theorem gX5_goes_X5_looksAt : GoodIn wsX5_goes (wsV RX5 140 RX5 yX5_looksAt wsX5_looksAt) := goodIn_app (goodIn_of _ (by decide +kernel)) ggX5_goes_X5_looksAt
set_option maxRecDepth 20000 in
theorem ggX5_goes_X5_at : GoodIn wsX5_goes wsX5_at := goodIn_r _ [25] (by decide +kernel) (by decide +kernel)
set_option maxRecDepth 20000 in
theorem gX5_goes_X5_at : GoodIn wsX5_goes (va_wsS RX5 84 yX5_at wsX5_at) := goodIn_app (goodIn_of _ (by decide +kernel)) ggX5_goes_X5_at
set_option maxRecDepth 20000 in
theorem ggX5_goes_X5_personIs : GoodIn wsX5_goes wsX5_personIs := goodIn_r _ [22, 1, 23, 24, 13, 25, 56, 57, 58, 59, 60, 61, 62, 63, 64, 65, 66, 67, 68, 69, 70, 71, 72, 73, 74, 75, 76, 77, 78] (by decide +kernel) (by decide +kernel)
set_option maxRecDepth 20000 in
theorem gX5_goes_X5_personIs : GoodIn wsX5_goes (wsV RX5 106 RX5 yX5_personIs wsX5_personIs) := goodIn_app (goodIn_of _ (by decide +kernel)) ggX5_goes_X5_personIs
theorem dX5_goes_0 : decode cX5_goes 0 = .ok (.aload_n 0, 1) := by decide +kernel
theorem dX5_goes_1 : decode cX5_goes 1 = .ok (.invokevirtual 140, 3) := by decide +kernel
theorem dX5_goes_4 : decode cX5_goes 4 = .ok (.iconst 0, 1) := by decide +kernel
theorem dX5_goes_5 : decode cX5_goes 5 = .ok (.istore_n 1, 1) := by decide +kernel
theorem dX5_goes_6 : decode cX5_goes 6 = .ok (.iload_n 1, 1) := by decide +kernel
theorem dX5_goes_7 : decode cX5_goes 7 = .ok (.aload_n 0, 1) := by decide +kernel
theorem dX5_goes_8 : decode cX5_goes 8 = .ok (.getfield 9, 3) := by decide +kernel
theorem dX5_goes_11 : decode cX5_goes 11 = .ok (.iconst 1, 1) := by decide +kernel
theorem dX5_goes_12 : decode cX5_goes 12 = .ok (.iaload, 1) := by decide +kernel
theorem dX5_goes_13 : decode cX5_goes 13 = .ok (.if_icmp .ge 101, 3) := by decide +kernel
theorem dX5_goes_16 : decode cX5_goes 16 = .ok (.aload_n 0, 1) := by decide +kernel
theorem dX5_goes_17 : decode cX5_goes 17 = .ok (.getfield 9, 3) := by decide +kernel
theorem dX5_goes_20 : decode cX5_goes 20 = .ok (.iload_n 1, 1) := by decide +kernel
theorem dX5_goes_21 : decode cX5_goes 21 = .ok (.iconst 4, 1) := by decide +kernel
theorem dX5_goes_22 : decode cX5_goes 22 = .ok (.invokestatic 84, 3) := by decide +kernel
theorem dX5_goes_25 : decode cX5_goes 25 = .ok (.ldc 149, 2) := by decide +kernel
theorem dX5_goes_27 : decode cX5_goes 27 = .ok (.aload_n 0, 1) := by decide +kernel
theorem dX5_goes_28 : decode cX5_goes 28 = .ok (.iload_n 1, 1) := by decide +kernel
theorem dX5_goes_29 : decode cX5_goes 29 = .ok (.iconst 4, 1) := by decide +kernel
theorem dX5_goes_30 : decode cX5_goes 30 = .ok (.invokevirtual 106, 3) := by decide +kernel
theorem dX5_goes_33 : decode cX5_goes 33 = .ok (.aload_n 0, 1) := by decide +kernel
theorem dX5_goes_34 : decode cX5_goes 34 = .ok (.getfield 25, 3) := by decide +kernel
theorem dX5_goes_37 : decode cX5_goes 37 = .ok (.iload_n 1, 1) := by decide +kernel
theorem dX5_goes_38 : decode cX5_goes 38 = .ok (.iaload, 1) := by decide +kernel
theorem dX5_goes_39 : decode cX5_goes 39 = .ok (.iadd, 1) := by decide +kernel
theorem dX5_goes_40 : decode cX5_goes 40 = .ok (.invokestatic 153, 3) := by decide +kernel
theorem dX5_goes_43 : decode cX5_goes 43 = .ok (.iastore, 1) := by decide +kernel
theorem dX5_goes_44 : decode cX5_goes 44 = .ok (.iload_n 1, 1) := by decide +kernel
theorem dX5_goes_45 : decode cX5_goes 45 = .ok (.aload_n 0, 1) := by decide +kernel
theorem dX5_goes_46 : decode cX5_goes 46 = .ok (.getfield 28, 3) := by decide +kernel
theorem dX5_goes_49 : decode cX5_goes 49 = .ok (.if_icmp .eq 24, 3) := by decide +kernel
theorem dX5_goes_52 : decode cX5_goes 52 = .ok (.aload_n 0, 1) := by decide +kernel
theorem dX5_goes_53 : decode cX5_goes 53 = .ok (.iload_n 1, 1) := by decide +kernel
theorem dX5_goes_54 : decode cX5_goes 54 = .ok (.iconst 0, 1) := by decide +kernel
theorem dX5_goes_55 : decode cX5_goes 55 = .ok (.invokevirtual 106, 3) := by decide +kernel
theorem dX5_goes_58 : decode cX5_goes 58 = .ok (.iconst 5, 1) := by decide +kernel
theorem dX5_goes_59 : decode cX5_goes 59 = .ok (.if_icmp .eq 14, 3) := by decide +kernel
theorem dX5_goes_62 : decode cX5_goes 62 = .ok (.aload_n 0, 1) := by decide +kernel
theorem dX5_goes_63 : decode cX5_goes 63 = .ok (.iload_n 1, 1) := by decide +kernel
theorem dX5_goes_64 : decode cX5_goes 64 = .ok (.iconst 0, 1) := by decide +kernel
theorem dX5_goes_65 : decode cX5_goes 65 = .ok (.invokevirtual 106, 3) := by decide +kernel
theorem dX5_goes_68 : decode cX5_goes 68 = .ok (.bipush 6, 2) := by decide +kernel
theorem dX5_goes_70 : decode cX5_goes 70 = .ok (.if_icmp .ne 7, 3) := by decide +kernel
theorem dX5_goes_73 : decode cX5_goes 73 = .ok (.iconst 1, 1) := by decide +kernel
theorem dX5_goes_74 : decode cX5_goes 74 = .ok (.goto 4, 3) := by decide +kernel
theorem dX5_goes_77 : decode cX5_goes 77 = .ok (.iconst 0, 1) := by decide +kernel
theorem dX5_goes_78 : decode cX5_goes 78 = .ok (.istore_n 2, 1) := by decide +kernel
theorem dX5_goes_79 : decode cX5_goes 79 = .ok (.aload_n 0, 1) := by decide +kernel
theorem dX5_goes_80 : decode cX5_goes 80 = .ok (.getfield 9, 3) := by decide +kernel
theorem dX5_goes_83 : decode cX5_goes 83 = .ok (.iload_n 1, 1) := by decide +kernel
theorem dX5_goes_84 : decode cX5_goes 84 = .ok (.iconst 1, 1) := by decide +kernel
theorem dX5_goes_85 : decode cX5_goes 85 = .ok (.invokestatic 84, 3) := by decide +kernel
theorem dX5_goes_88 : decode cX5_goes 88 = .ok (.iload_n 2, 1) := by decide +kernel
theorem dX5_goes_89 : decode cX5_goes 89 = .ok (.ifCond .eq 12, 3) := by decide +kernel
theorem dX5_goes_92 : decode cX5_goes 92 = .ok (.aload_n 0, 1) := by decide +kernel
theorem dX5_goes_93 : decode cX5_goes 93 = .ok (.iload_n 1, 1) := by decide +kernel
theorem dX5_goes_94 : decode cX5_goes 94 = .ok (.iconst 1, 1) := by decide +kernel
theorem dX5_goes_95 : decode cX5_goes 95 = .ok (.invokevirtual 106, 3) := by decide +kernel
theorem dX5_goes_98 : decode cX5_goes 98 = .ok (.goto 9, 3) := by decide +kernel
theorem dX5_goes_101 : decode cX5_goes 101 = .ok (.aload_n 0, 1) := by decide +kernel
theorem dX5_goes_102 : decode cX5_goes 102 = .ok (.getfield 22, 3) := by decide +kernel
theorem dX5_goes_105 : decode cX5_goes 105 = .ok (.iload_n 1, 1) := by decide +kernel
theorem dX5_goes_106 : decode cX5_goes 106 = .ok (.iaload, 1) := by decide +kernel
theorem dX5_goes_107 : decode cX5_goes 107 = .ok (.iastore, 1) := by decide +kernel
theorem dX5_goes_108 : decode cX5_goes 108 = .ok (.iinc 1 1, 3) := by decide +kernel
theorem dX5_goes_111 : decode cX5_goes 111 = .ok (.goto (-105), 3) := by decide +kernel
theorem dX5_goes_114 : decode cX5_goes 114 = .ok (.aload_n 0, 1) := by decide +kernel
theorem dX5_goes_115 : decode cX5_goes 115 = .ok (.getfield 9, 3) := by decide +kernel
theorem dX5_goes_118 : decode cX5_goes 118 = .ok (.iconst 0, 1) := by decide +kernel
theorem dX5_goes_119 : decode cX5_goes 119 = .ok (.dup2, 1) := by decide +kernel
theorem dX5_goes_120 : decode cX5_goes 120 = .ok (.iaload, 1) := by decide +kernel
theorem dX5_goes_121 : decode cX5_goes 121 = .ok (.iconst 1, 1) := by decide +kernel
theorem dX5_goes_122 : decode cX5_goes 122 = .ok (.iadd, 1) := by decide +kernel
theorem dX5_goes_123 : decode cX5_goes 123 = .ok (.iastore, 1) := by decide +kernel
theorem dX5_goes_124 : decode cX5_goes 124 = .ok (.return_, 1) := by decide +kernel
set_option maxRecDepth 20000 in
theorem ggX5_goesOn_X5_goes : GoodIn wsX5_goesOn wsX5_goes := goodIn_r _ [5, 6, 7, 8, 9, 10, 11, 12, 13, 14, 15, 16, 17, 4, 18, 19, 20, 21, 22, 23, 24, 25, 26, 27, 28, 29, 30, 31, 32, 33, 34, 35, 36, 37, 38, 39, 40, 41, 42, 43, 44, 45, 46, 47, 48, 49, 50, 51, 52, 53, 54, 55, 56, 57, 58, 59, 60, 61, 62, 63, 64, 65, 66, 67, 68, 69, 70, 71, 72, 73, 74, 75, 76, 77, 78, 79, 80, 81, 82] (by decide +kernel) (by decide +kernel)
set_option maxRecDepth 20000 in
theorem gX5_goesOn_X5_goes : GoodIn wsX5_goesOn (wsV RX5 156 RX5 yX5_goes wsX5_goes) := goodIn_app (goodIn_of _ (by decide +kernel)) ggX5_goesOn_X5_goes
theorem dX5_goesOn_0 : decode cX5_goesOn 0 = .ok (.iconst 0, 1) := by decide +kernel
theorem dX5_goesOn_1 : decode cX5_goesOn 1 = .ok (.istore_n 2, 1) := by decide +kernel
theorem dX5_goesOn_2 : decode cX5_goesOn 2 = .ok (.iload_n 2, 1) := by decide +kernel
theorem dX5_goesOn_3 : decode cX5_goesOn 3 = .ok (.iload_n 1, 1) := by decide +kernel
theorem dX5_goesOn_4 : decode cX5_goesOn 4 = .ok (.if_icmp .ge 13, 3) := by decide +kernel
theorem dX5_goesOn_7 : decode cX5_goesOn 7 = .ok (.aload_n 0, 1) := by decide +kernel
theorem dX5_goesOn_8 : decode cX5_goesOn 8 = .ok (.invokevirtual 156, 3) := by decide +kernel
theorem dX5_goesOn_11 : decode cX5_goesOn 11 = .ok (.iinc 2 1, 3) := by decide +kernel
theorem dX5_goesOn_14 : decode cX5_goesOn 14 = .ok (.goto (-12), 3) := by decide +kernel
theorem dX5_goesOn_17 : decode cX5_goesOn 17 = .ok (.return_, 1) := by decide +kernel
set_option maxRecDepth 20000 in
theorem ggX5_goodsAll_X5_personIs : GoodIn wsX5_goodsAll wsX5_personIs := goodIn_r _ [6, 1, 7, 8, 5, 9, 10, 11, 12, 13, 14, 15, 16, 17, 18, 19, 20, 21, 22, 23, 24, 25, 26, 27, 28, 29, 30, 31, 32] (by decide +kernel) (by decide +kernel)
set_option maxRecDepth 20000 in
theorem gX5_goodsAll_X5_personIs : GoodIn wsX5_goodsAll (wsV RX5 106 RX5 yX5_personIs wsX5_personIs) := goodIn_app (goodIn_of _ (by decide +kernel)) ggX5_goodsAll_X5_personIs
theorem dX5_goodsAll_0 : decode cX5_goodsAll 0 = .ok (.iconst 0, 1) := by decide +kernel
theorem dX5_goodsAll_1 : decode cX5_goodsAll 1 = .ok (.istore_n 1, 1) := by decide +kernel
theorem dX5_goodsAll_2 : decode cX5_goodsAll 2 = .ok (.iconst 0, 1) := by decide +kernel
theorem dX5_goodsAll_3 : decode cX5_goodsAll 3 = .ok (.istore_n 2, 1) := by decide +kernel
theorem dX5_goodsAll_4 : decode cX5_goodsAll 4 = .ok (.iload_n 2, 1) := by decide +kernel
theorem dX5_goodsAll_5 : decode cX5_goodsAll 5 = .ok (.aload_n 0, 1) := by decide +kernel
theorem dX5_goodsAll_6 : decode cX5_goodsAll 6 = .ok (.getfield 9, 3) := by decide +kernel
theorem dX5_goodsAll_9 : decode cX5_goodsAll 9 = .ok (.iconst 1, 1) := by decide +kernel
theorem dX5_goodsAll_10 : decode cX5_goodsAll 10 = .ok (.iaload, 1) := by decide +kernel
theorem dX5_goodsAll_11 : decode cX5_goodsAll 11 = .ok (.if_icmp .ge 18, 3) := by decide +kernel
theorem dX5_goodsAll_14 : decode cX5_goodsAll 14 = .ok (.iload_n 1, 1) := by decide +kernel
theorem dX5_goodsAll_15 : decode cX5_goodsAll 15 = .ok (.aload_n 0, 1) := by decide +kernel
theorem dX5_goodsAll_16 : decode cX5_goodsAll 16 = .ok (.iload_n 2, 1) := by decide +kernel
theorem dX5_goodsAll_17 : decode cX5_goodsAll 17 = .ok (.iconst 4, 1) := by decide +kernel
theorem dX5_goodsAll_18 : decode cX5_goodsAll 18 = .ok (.invokevirtual 106, 3) := by decide +kernel
theorem dX5_goodsAll_21 : decode cX5_goodsAll 21 = .ok (.iadd, 1) := by decide +kernel
theorem dX5_goodsAll_22 : decode cX5_goodsAll 22 = .ok (.istore_n 1, 1) := by decide +kernel
theorem dX5_goodsAll_23 : decode cX5_goodsAll 23 = .ok (.iinc 2 1, 3) := by decide +kernel
theorem dX5_goodsAll_26 : decode cX5_goodsAll 26 = .ok (.goto (-22), 3) := by decide +kernel
theorem dX5_goodsAll_29 : decode cX5_goodsAll 29 = .ok (.iload_n 1, 1) := by decide +kernel
theorem dX5_goodsAll_30 : decode cX5_goodsAll 30 = .ok (.ireturn, 1) := by decide +kernel
set_option maxRecDepth 20000 in
theorem ggX5_go_X5_within : GoodIn wsX5_go wsX5_within := goodIn_r _ [8] (by decide +kernel) (by decide +kernel)
set_option maxRecDepth 20000 in
theorem gX5_go_X5_within : GoodIn wsX5_go (va_wsS RX5 80 yX5_within wsX5_within) := goodIn_app (goodIn_of _ (by decide +kernel)) ggX5_go_X5_within
set_option maxRecDepth 20000 in
theorem ggX5_go_X5_finding : GoodIn wsX5_go wsX5_finding := goodIn_r _ [12, 13, 1, 78, 79, 80, 81, 82, 83, 84, 85, 86, 87, 88, 89, 90, 91, 92, 93, 94, 95, 96, 97, 98, 99, 100] (by decide +kernel) (by decide +kernel)
set_option maxRecDepth 20000 in
theorem gX5_go_X5_finding : GoodIn wsX5_go (wsV RX5 76 RX5 yX5_finding wsX5_finding) := goodIn_app (goodIn_of _ (by decide +kernel)) ggX5_go_X5_finding
set_option maxRecDepth 20000 in
theorem ggX5_go_X5_goesOn : GoodIn wsX5_go wsX5_goesOn := goodIn_r _ [17, 18, 19, 20, 7, 21, 2, 3, 22, 23, 24, 25, 26, 27, 28, 29, 30, 31, 32, 33, 34, 35, 36, 37, 38, 39, 40, 41, 42, 43, 44, 45, 46, 47, 48, 49, 50, 51, 52, 53, 54, 55, 56, 57, 58, 59, 60, 61, 62, 63, 64, 65, 66, 67, 68, 69, 70, 71, 72, 73, 78, 79, 80, 81, 82, 83, 84, 85, 86, 87, 88, 89, 90, 91, 92, 93, 94, 95, 96, 97, 98, 99, 100] (by decide +kernel) (by decide +kernel)
set_option maxRecDepth 20000 in
theorem gX5_go_X5_goesOn : GoodIn wsX5_go (wsV RX5 160 RX5 yX5_goesOn wsX5_goesOn) := goodIn_app (goodIn_of _ (by decide +kernel)) ggX5_go_X5_goesOn
set_option maxRecDepth 20000 in
theorem ggX5_go_X5_goodsAll : GoodIn wsX5_go wsX5_goodsAll := goodIn_r _ [77, 2, 37, 38, 39, 7, 40, 41, 42, 43, 78, 79, 80, 81, 82, 83, 84, 85, 86, 87, 88, 89, 90, 91, 92, 93, 94, 95, 96, 97, 98, 99, 100] (by decide +kernel) (by decide +kernel)
set_option maxRecDepth 20000 in
theorem gX5_go_X5_goodsAll : GoodIn wsX5_go (wsV RX5 164 RX5 yX5_goodsAll wsX5_goodsAll) := goodIn_app (goodIn_of _ (by decide +kernel)) ggX5_go_X5_goodsAll
theorem dX5_go_0 : decode cX5_go 0 = .ok (.iload_n 1, 1) := by decide +kernel
theorem dX5_go_1 : decode cX5_go 1 = .ok (.iconst 1, 1) := by decide +kernel
theorem dX5_go_2 : decode cX5_go 2 = .ok (.bipush 60, 2) := by decide +kernel
theorem dX5_go_4 : decode cX5_go 4 = .ok (.invokestatic 80, 3) := by decide +kernel
theorem dX5_go_7 : decode cX5_go 7 = .ok (.ifCond .ne 10, 3) := by decide +kernel
theorem dX5_go_10 : decode cX5_go 10 = .ok (.aload_n 0, 1) := by decide +kernel
theorem dX5_go_11 : decode cX5_go 11 = .ok (.ldc 70, 2) := by decide +kernel
theorem dX5_go_13 : decode cX5_go 13 = .ok (.invokevirtual 76, 3) := by decide +kernel
theorem dX5_go_16 : decode cX5_go 16 = .ok (.ireturn, 1) := by decide +kernel
theorem dX5_go_17 : decode cX5_go 17 = .ok (.aload_n 0, 1) := by decide +kernel
theorem dX5_go_18 : decode cX5_go 18 = .ok (.getfield 9, 3) := by decide +kernel
theorem dX5_go_21 : decode cX5_go 21 = .ok (.iconst 0, 1) := by decide +kernel
theorem dX5_go_22 : decode cX5_go 22 = .ok (.iaload, 1) := by decide +kernel
theorem dX5_go_23 : decode cX5_go 23 = .ok (.iload_n 1, 1) := by decide +kernel
theorem dX5_go_24 : decode cX5_go 24 = .ok (.iadd, 1) := by decide +kernel
theorem dX5_go_25 : decode cX5_go 25 = .ok (.ldc 149, 2) := by decide +kernel
theorem dX5_go_27 : decode cX5_go 27 = .ok (.if_icmp .le 10, 3) := by decide +kernel
theorem dX5_go_30 : decode cX5_go 30 = .ok (.aload_n 0, 1) := by decide +kernel
theorem dX5_go_31 : decode cX5_go 31 = .ok (.ldc 159, 2) := by decide +kernel
theorem dX5_go_33 : decode cX5_go 33 = .ok (.invokevirtual 76, 3) := by decide +kernel
theorem dX5_go_36 : decode cX5_go 36 = .ok (.ireturn, 1) := by decide +kernel
theorem dX5_go_37 : decode cX5_go 37 = .ok (.aload_n 0, 1) := by decide +kernel
theorem dX5_go_38 : decode cX5_go 38 = .ok (.iload_n 1, 1) := by decide +kernel
theorem dX5_go_39 : decode cX5_go 39 = .ok (.invokevirtual 160, 3) := by decide +kernel
theorem dX5_go_42 : decode cX5_go 42 = .ok (.aload_n 0, 1) := by decide +kernel
theorem dX5_go_43 : decode cX5_go 43 = .ok (.invokevirtual 164, 3) := by decide +kernel
theorem dX5_go_46 : decode cX5_go 46 = .ok (.ireturn, 1) := by decide +kernel
set_option maxRecDepth 20000 in
theorem ggX5_whoRegrets_X5_looksAt : GoodIn wsX5_whoRegrets wsX5_looksAt := goodIn_r _ [6, 1, 7, 8, 9, 10, 11, 12, 5, 13, 14, 15, 16, 17, 18, 19, 20, 21, 22, 23, 24, 25, 26, 27, 28, 29, 30, 31, 32, 33, 34, 35, 36, 37, 38, 39, 40, 41, 42, 43, 44, 45, 46, 47, 48, 49, 50, 51, 56, 57, 58, 59, 60, 61, 62, 63, 64, 65, 66, 67, 68, 69, 70, 71, 72, 73, 74, 75, 76, 77, 78] (by decide +kernel) (by decide +kernel)
set_option maxRecDepth 20000 in
theorem gX5_whoRegrets_X5_looksAt : GoodIn wsX5_whoRegrets (wsV RX5 140 RX5 yX5_looksAt wsX5_looksAt) := goodIn_app (goodIn_of _ (by decide +kernel)) ggX5_whoRegrets_X5_looksAt
set_option maxRecDepth 20000 in
theorem ggX5_whoRegrets_X5_doesRegret : GoodIn wsX5_whoRegrets wsX5_doesRegret := goodIn_r _ [55, 7, 1, 9, 48, 49, 50, 5, 51, 33, 34, 35, 56, 57, 58, 59, 60, 61, 62, 63, 64, 65, 66, 67, 68, 69, 70, 71, 72, 73, 74, 75, 76, 77, 78] (by decide +kernel) (by decide +kernel)
set_option maxRecDepth 20000 in
theorem gX5_whoRegrets_X5_doesRegret : GoodIn wsX5_whoRegrets (wsV RX5 146 RX5 yX5_doesRegret wsX5_doesRegret) := goodIn_app (goodIn_of _ (by decide +kernel)) ggX5_whoRegrets_X5_doesRegret
theorem dX5_whoRegrets_0 : decode cX5_whoRegrets 0 = .ok (.aload_n 0, 1) := by decide +kernel
theorem dX5_whoRegrets_1 : decode cX5_whoRegrets 1 = .ok (.invokevirtual 140, 3) := by decide +kernel
theorem dX5_whoRegrets_4 : decode cX5_whoRegrets 4 = .ok (.iconst 0, 1) := by decide +kernel
theorem dX5_whoRegrets_5 : decode cX5_whoRegrets 5 = .ok (.istore_n 1, 1) := by decide +kernel
theorem dX5_whoRegrets_6 : decode cX5_whoRegrets 6 = .ok (.iconst 0, 1) := by decide +kernel
theorem dX5_whoRegrets_7 : decode cX5_whoRegrets 7 = .ok (.istore_n 2, 1) := by decide +kernel
theorem dX5_whoRegrets_8 : decode cX5_whoRegrets 8 = .ok (.iload_n 2, 1) := by decide +kernel
theorem dX5_whoRegrets_9 : decode cX5_whoRegrets 9 = .ok (.aload_n 0, 1) := by decide +kernel
theorem dX5_whoRegrets_10 : decode cX5_whoRegrets 10 = .ok (.getfield 9, 3) := by decide +kernel
theorem dX5_whoRegrets_13 : decode cX5_whoRegrets 13 = .ok (.iconst 1, 1) := by decide +kernel
theorem dX5_whoRegrets_14 : decode cX5_whoRegrets 14 = .ok (.iaload, 1) := by decide +kernel
theorem dX5_whoRegrets_15 : decode cX5_whoRegrets 15 = .ok (.if_icmp .ge 27, 3) := by decide +kernel
theorem dX5_whoRegrets_18 : decode cX5_whoRegrets 18 = .ok (.iload_n 1, 1) := by decide +kernel
theorem dX5_whoRegrets_19 : decode cX5_whoRegrets 19 = .ok (.aload_n 0, 1) := by decide +kernel
theorem dX5_whoRegrets_20 : decode cX5_whoRegrets 20 = .ok (.iload_n 2, 1) := by decide +kernel
theorem dX5_whoRegrets_21 : decode cX5_whoRegrets 21 = .ok (.invokevirtual 146, 3) := by decide +kernel
theorem dX5_whoRegrets_24 : decode cX5_whoRegrets 24 = .ok (.ifCond .eq 9, 3) := by decide +kernel
theorem dX5_whoRegrets_27 : decode cX5_whoRegrets 27 = .ok (.iconst 1, 1) := by decide +kernel
theorem dX5_whoRegrets_28 : decode cX5_whoRegrets 28 = .ok (.iload_n 2, 1) := by decide +kernel
theorem dX5_whoRegrets_29 : decode cX5_whoRegrets 29 = .ok (.ishl, 1) := by decide +kernel
theorem dX5_whoRegrets_30 : decode cX5_whoRegrets 30 = .ok (.goto 4, 3) := by decide +kernel
theorem dX5_whoRegrets_33 : decode cX5_whoRegrets 33 = .ok (.iconst 0, 1) := by decide +kernel
theorem dX5_whoRegrets_34 : decode cX5_whoRegrets 34 = .ok (.ior, 1) := by decide +kernel
theorem dX5_whoRegrets_35 : decode cX5_whoRegrets 35 = .ok (.istore_n 1, 1) := by decide +kernel
theorem dX5_whoRegrets_36 : decode cX5_whoRegrets 36 = .ok (.iinc 2 1, 3) := by decide +kernel
theorem dX5_whoRegrets_39 : decode cX5_whoRegrets 39 = .ok (.goto (-31), 3) := by decide +kernel
theorem dX5_whoRegrets_42 : decode cX5_whoRegrets 42 = .ok (.iload_n 1, 1) := by decide +kernel
theorem dX5_whoRegrets_43 : decode cX5_whoRegrets 43 = .ok (.ireturn, 1) := by decide +kernel
set_option maxRecDepth 20000 in
theorem ggX5_comePlaces_X5_looksAt : GoodIn wsX5_comePlaces wsX5_looksAt := goodIn_r _ [7, 1, 2, 8, 9, 10, 11, 12, 6, 13, 14, 15, 16, 17, 18, 19, 20, 21, 22, 23, 24, 25, 26, 27, 28, 29, 30, 31, 32, 33, 34, 35, 36, 37, 38, 39, 40, 41, 42, 43, 44, 45, 46, 47, 48, 49, 50, 51, 52, 53, 54, 55, 56, 57, 58, 59, 60, 61, 62, 63, 64, 65, 66, 67, 68, 69, 70, 71, 72, 73, 74] (by decide +kernel) (by decide +kernel)
set_option maxRecDepth 20000 in
theorem gX5_comePlaces_X5_looksAt : GoodIn wsX5_comePlaces (wsV RX5 140 RX5 yX5_looksAt wsX5_looksAt) := goodIn_app (goodIn_of _ (by decide +kernel)) ggX5_comePlaces_X5_looksAt
theorem dX5_comePlaces_0 : decode cX5_comePlaces 0 = .ok (.aload_n 0, 1) := by decide +kernel
theorem dX5_comePlaces_1 : decode cX5_comePlaces 1 = .ok (.invokevirtual 140, 3) := by decide +kernel
theorem dX5_comePlaces_4 : decode cX5_comePlaces 4 = .ok (.iconst 0, 1) := by decide +kernel
theorem dX5_comePlaces_5 : decode cX5_comePlaces 5 = .ok (.istore_n 1, 1) := by decide +kernel
theorem dX5_comePlaces_6 : decode cX5_comePlaces 6 = .ok (.iconst 0, 1) := by decide +kernel
theorem dX5_comePlaces_7 : decode cX5_comePlaces 7 = .ok (.istore_n 2, 1) := by decide +kernel
theorem dX5_comePlaces_8 : decode cX5_comePlaces 8 = .ok (.iload_n 2, 1) := by decide +kernel
theorem dX5_comePlaces_9 : decode cX5_comePlaces 9 = .ok (.aload_n 0, 1) := by decide +kernel
theorem dX5_comePlaces_10 : decode cX5_comePlaces 10 = .ok (.getfield 9, 3) := by decide +kernel
theorem dX5_comePlaces_13 : decode cX5_comePlaces 13 = .ok (.iconst 1, 1) := by decide +kernel
theorem dX5_comePlaces_14 : decode cX5_comePlaces 14 = .ok (.iaload, 1) := by decide +kernel
theorem dX5_comePlaces_15 : decode cX5_comePlaces 15 = .ok (.if_icmp .ge 20, 3) := by decide +kernel
theorem dX5_comePlaces_18 : decode cX5_comePlaces 18 = .ok (.iload_n 1, 1) := by decide +kernel
theorem dX5_comePlaces_19 : decode cX5_comePlaces 19 = .ok (.iconst 1, 1) := by decide +kernel
theorem dX5_comePlaces_20 : decode cX5_comePlaces 20 = .ok (.aload_n 0, 1) := by decide +kernel
theorem dX5_comePlaces_21 : decode cX5_comePlaces 21 = .ok (.getfield 22, 3) := by decide +kernel
theorem dX5_comePlaces_24 : decode cX5_comePlaces 24 = .ok (.iload_n 2, 1) := by decide +kernel
theorem dX5_comePlaces_25 : decode cX5_comePlaces 25 = .ok (.iaload, 1) := by decide +kernel
theorem dX5_comePlaces_26 : decode cX5_comePlaces 26 = .ok (.ishl, 1) := by decide +kernel
theorem dX5_comePlaces_27 : decode cX5_comePlaces 27 = .ok (.ior, 1) := by decide +kernel
theorem dX5_comePlaces_28 : decode cX5_comePlaces 28 = .ok (.istore_n 1, 1) := by decide +kernel
theorem dX5_comePlaces_29 : decode cX5_comePlaces 29 = .ok (.iinc 2 1, 3) := by decide +kernel
theorem dX5_comePlaces_32 : decode cX5_comePlaces 32 = .ok (.goto (-24), 3) := by decide +kernel
theorem dX5_comePlaces_35 : decode cX5_comePlaces 35 = .ok (.iload_n 1, 1) := by decide +kernel
theorem dX5_comePlaces_36 : decode cX5_comePlaces 36 = .ok (.ireturn, 1) := by decide +kernel
set_option maxRecDepth 20000 in
theorem ggX5_whoMoves_X5_looksAt : GoodIn wsX5_whoMoves wsX5_looksAt := goodIn_r _ [7, 1, 2, 8, 9, 10, 11, 12, 6, 13, 14, 15, 16, 17, 18, 19, 20, 21, 22, 23, 24, 25, 26, 27, 28, 29, 30, 31, 32, 33, 34, 35, 36, 37, 38, 39, 40, 41, 42, 43, 44, 45, 46, 47, 48, 49, 50, 51, 52, 53, 54, 55, 56, 57, 58, 59, 60, 61, 62, 63, 64, 65, 66, 67, 68, 69, 70, 71, 72, 73, 74] (by decide +kernel) (by decide +kernel)
set_option maxRecDepth 20000 in
theorem gX5_whoMoves_X5_looksAt : GoodIn wsX5_whoMoves (wsV RX5 140 RX5 yX5_looksAt wsX5_looksAt) := goodIn_app (goodIn_of _ (by decide +kernel)) ggX5_whoMoves_X5_looksAt
set_option maxRecDepth 20000 in
theorem ggX5_whoMoves_X5_personIs : GoodIn wsX5_whoMoves wsX5_personIs := goodIn_r _ [17, 1, 18, 19, 6, 20, 52, 53, 54, 55, 56, 57, 58, 59, 60, 61, 62, 63, 64, 65, 66, 67, 68, 69, 70, 71, 72, 73, 74] (by decide +kernel) (by decide +kernel)
set_option maxRecDepth 20000 in
theorem gX5_whoMoves_X5_personIs : GoodIn wsX5_whoMoves (wsV RX5 106 RX5 yX5_personIs wsX5_personIs) := goodIn_app (goodIn_of _ (by decide +kernel)) ggX5_whoMoves_X5_personIs
theorem dX5_whoMoves_0 : decode cX5_whoMoves 0 = .ok (.aload_n 0, 1) := by decide +kernel
theorem dX5_whoMoves_1 : decode cX5_whoMoves 1 = .ok (.invokevirtual 140, 3) := by decide +kernel
theorem dX5_whoMoves_4 : decode cX5_whoMoves 4 = .ok (.iconst 0, 1) := by decide +kernel
theorem dX5_whoMoves_5 : decode cX5_whoMoves 5 = .ok (.istore_n 1, 1) := by decide +kernel
theorem dX5_whoMoves_6 : decode cX5_whoMoves 6 = .ok (.iconst 0, 1) := by decide +kernel
theorem dX5_whoMoves_7 : decode cX5_whoMoves 7 = .ok (.istore_n 2, 1) := by decide +kernel
theorem dX5_whoMoves_8 : decode cX5_whoMoves 8 = .ok (.iload_n 2, 1) := by decide +kernel
theorem dX5_whoMoves_9 : decode cX5_whoMoves 9 = .ok (.aload_n 0, 1) := by decide +kernel
theorem dX5_whoMoves_10 : decode cX5_whoMoves 10 = .ok (.getfield 9, 3) := by decide +kernel
theorem dX5_whoMoves_13 : decode cX5_whoMoves 13 = .ok (.iconst 1, 1) := by decide +kernel
theorem dX5_whoMoves_14 : decode cX5_whoMoves 14 = .ok (.iaload, 1) := by decide +kernel
theorem dX5_whoMoves_15 : decode cX5_whoMoves 15 = .ok (.if_icmp .ge 34, 3) := by decide +kernel
theorem dX5_whoMoves_18 : decode cX5_whoMoves 18 = .ok (.iload_n 1, 1) := by decide +kernel
theorem dX5_whoMoves_19 : decode cX5_whoMoves 19 = .ok (.aload_n 0, 1) := by decide +kernel
theorem dX5_whoMoves_20 : decode cX5_whoMoves 20 = .ok (.getfield 22, 3) := by decide +kernel
theorem dX5_whoMoves_23 : decode cX5_whoMoves 23 = .ok (.iload_n 2, 1) := by decide +kernel
theorem dX5_whoMoves_24 : decode cX5_whoMoves 24 = .ok (.iaload, 1) := by decide +kernel
theorem dX5_whoMoves_25 : decode cX5_whoMoves 25 = .ok (.aload_n 0, 1) := by decide +kernel
theorem dX5_whoMoves_26 : decode cX5_whoMoves 26 = .ok (.iload_n 2, 1) := by decide +kernel
theorem dX5_whoMoves_27 : decode cX5_whoMoves 27 = .ok (.iconst 1, 1) := by decide +kernel
theorem dX5_whoMoves_28 : decode cX5_whoMoves 28 = .ok (.invokevirtual 106, 3) := by decide +kernel
theorem dX5_whoMoves_31 : decode cX5_whoMoves 31 = .ok (.if_icmp .eq 9, 3) := by decide +kernel
theorem dX5_whoMoves_34 : decode cX5_whoMoves 34 = .ok (.iconst 1, 1) := by decide +kernel
theorem dX5_whoMoves_35 : decode cX5_whoMoves 35 = .ok (.iload_n 2, 1) := by decide +kernel
theorem dX5_whoMoves_36 : decode cX5_whoMoves 36 = .ok (.ishl, 1) := by decide +kernel
theorem dX5_whoMoves_37 : decode cX5_whoMoves 37 = .ok (.goto 4, 3) := by decide +kernel
theorem dX5_whoMoves_40 : decode cX5_whoMoves 40 = .ok (.iconst 0, 1) := by decide +kernel
theorem dX5_whoMoves_41 : decode cX5_whoMoves 41 = .ok (.ior, 1) := by decide +kernel
theorem dX5_whoMoves_42 : decode cX5_whoMoves 42 = .ok (.istore_n 1, 1) := by decide +kernel
theorem dX5_whoMoves_43 : decode cX5_whoMoves 43 = .ok (.iinc 2 1, 3) := by decide +kernel
theorem dX5_whoMoves_46 : decode cX5_whoMoves 46 = .ok (.goto (-38), 3) := by decide +kernel
theorem dX5_whoMoves_49 : decode cX5_whoMoves 49 = .ok (.iload_n 1, 1) := by decide +kernel
theorem dX5_whoMoves_50 : decode cX5_whoMoves 50 = .ok (.ireturn, 1) := by decide +kernel
set_option maxRecDepth 20000 in
theorem ggX5_richest_X5_personIs : GoodIn wsX5_richest wsX5_personIs := goodIn_r _ [6, 1, 7, 8, 5, 9, 10, 11, 12, 13, 14, 15, 16, 17, 18, 19, 20, 21, 22, 23, 24, 25, 26, 27, 28, 29, 30, 31, 32] (by decide +kernel) (by decide +kernel)
set_option maxRecDepth 20000 in
theorem gX5_richest_X5_personIs : GoodIn wsX5_richest (wsV RX5 106 RX5 yX5_personIs wsX5_personIs) := goodIn_app (goodIn_of _ (by decide +kernel)) ggX5_richest_X5_personIs
theorem dX5_richest_0 : decode cX5_richest 0 = .ok (.iconst (-1), 1) := by decide +kernel
theorem dX5_richest_1 : decode cX5_richest 1 = .ok (.istore_n 1, 1) := by decide +kernel
theorem dX5_richest_2 : decode cX5_richest 2 = .ok (.iconst 0, 1) := by decide +kernel
theorem dX5_richest_3 : decode cX5_richest 3 = .ok (.istore_n 2, 1) := by decide +kernel
theorem dX5_richest_4 : decode cX5_richest 4 = .ok (.iload_n 2, 1) := by decide +kernel
theorem dX5_richest_5 : decode cX5_richest 5 = .ok (.aload_n 0, 1) := by decide +kernel
theorem dX5_richest_6 : decode cX5_richest 6 = .ok (.getfield 9, 3) := by decide +kernel
theorem dX5_richest_9 : decode cX5_richest 9 = .ok (.iconst 1, 1) := by decide +kernel
theorem dX5_richest_10 : decode cX5_richest 10 = .ok (.iaload, 1) := by decide +kernel
theorem dX5_richest_11 : decode cX5_richest 11 = .ok (.if_icmp .ge 34, 3) := by decide +kernel
theorem dX5_richest_14 : decode cX5_richest 14 = .ok (.iload_n 1, 1) := by decide +kernel
theorem dX5_richest_15 : decode cX5_richest 15 = .ok (.ifCond .lt 18, 3) := by decide +kernel
theorem dX5_richest_18 : decode cX5_richest 18 = .ok (.aload_n 0, 1) := by decide +kernel
theorem dX5_richest_19 : decode cX5_richest 19 = .ok (.iload_n 2, 1) := by decide +kernel
theorem dX5_richest_20 : decode cX5_richest 20 = .ok (.iconst 4, 1) := by decide +kernel
theorem dX5_richest_21 : decode cX5_richest 21 = .ok (.invokevirtual 106, 3) := by decide +kernel
theorem dX5_richest_24 : decode cX5_richest 24 = .ok (.aload_n 0, 1) := by decide +kernel
theorem dX5_richest_25 : decode cX5_richest 25 = .ok (.iload_n 1, 1) := by decide +kernel
theorem dX5_richest_26 : decode cX5_richest 26 = .ok (.iconst 4, 1) := by decide +kernel
theorem dX5_richest_27 : decode cX5_richest 27 = .ok (.invokevirtual 106, 3) := by decide +kernel
theorem dX5_richest_30 : decode cX5_richest 30 = .ok (.if_icmp .le 7, 3) := by decide +kernel
theorem dX5_richest_33 : decode cX5_richest 33 = .ok (.iload_n 2, 1) := by decide +kernel
theorem dX5_richest_34 : decode cX5_richest 34 = .ok (.goto 4, 3) := by decide +kernel
theorem dX5_richest_37 : decode cX5_richest 37 = .ok (.iload_n 1, 1) := by decide +kernel
theorem dX5_richest_38 : decode cX5_richest 38 = .ok (.istore_n 1, 1) := by decide +kernel
theorem dX5_richest_39 : decode cX5_richest 39 = .ok (.iinc 2 1, 3) := by decide +kernel
theorem dX5_richest_42 : decode cX5_richest 42 = .ok (.goto (-38), 3) := by decide +kernel
theorem dX5_richest_45 : decode cX5_richest 45 = .ok (.iload_n 1, 1) := by decide +kernel
theorem dX5_richest_46 : decode cX5_richest 46 = .ok (.ireturn, 1) := by decide +kernel
set_option maxRecDepth 20000 in
theorem ggX5_now_X5_goodsAll : GoodIn wsX5_now wsX5_goodsAll := goodIn_r _ [7, 1, 8, 9, 10, 6, 11, 12, 13, 14, 82, 83, 84, 85, 86, 87, 88, 89, 90, 91, 92, 93, 94, 95, 96, 97, 98, 99, 100, 101, 102, 103, 104] (by decide +kernel) (by decide +kernel)
set_option maxRecDepth 20000 in
theorem gX5_now_X5_goodsAll : GoodIn wsX5_now (wsV RX5 164 RX5 yX5_goodsAll wsX5_goodsAll) := goodIn_app (goodIn_of _ (by decide +kernel)) ggX5_now_X5_goodsAll
set_option maxRecDepth 20000 in
theorem ggX5_now_X5_whoRegrets : GoodIn wsX5_now wsX5_whoRegrets := goodIn_r _ [18, 1, 19, 20, 21, 6, 22, 23, 24, 25, 26, 27, 28, 29, 8, 9, 10, 11, 12, 13, 14, 30, 31, 32, 33, 34, 35, 36, 37, 38, 39, 40, 41, 42, 43, 44, 45, 46, 47, 48, 49, 50, 51, 52, 53, 54, 55, 56, 57, 58, 59, 60, 61, 62, 63, 64, 82, 83, 84, 85, 86, 87, 88, 89, 90, 91, 92, 93, 94, 95, 96, 97, 98, 99, 100, 101, 102, 103, 104] (by decide +kernel) (by decide +kernel)
set_option maxRecDepth 20000 in
theorem gX5_now_X5_whoRegrets : GoodIn wsX5_now (wsV RX5 168 RX5 yX5_whoRegrets wsX5_whoRegrets) := goodIn_app (goodIn_of _ (by decide +kernel)) ggX5_now_X5_whoRegrets
set_option maxRecDepth 20000 in
theorem ggX5_now_X5_comePlaces : GoodIn wsX5_now wsX5_comePlaces := goodIn_r _ [68, 1, 23, 19, 20, 21, 6, 22, 24, 25, 26, 27, 28, 29, 8, 9, 10, 11, 12, 13, 14, 30, 31, 32, 33, 34, 35, 36, 37, 38, 39, 40, 41, 42, 43, 44, 45, 46, 47, 48, 49, 50, 51, 52, 53, 54, 55, 56, 57, 58, 59, 60, 82, 83, 84, 85, 86, 87, 88, 89, 90, 91, 92, 93, 94, 95, 96, 97, 98, 99, 100, 101, 102, 103, 104] (by decide +kernel) (by decide +kernel)
set_option maxRecDepth 20000 in
theorem gX5_now_X5_comePlaces : GoodIn wsX5_now (wsV RX5 171 RX5 yX5_comePlaces wsX5_comePlaces) := goodIn_app (goodIn_of _ (by decide +kernel)) ggX5_now_X5_comePlaces
set_option maxRecDepth 20000 in
theorem ggX5_now_X5_whoMoves : GoodIn wsX5_now wsX5_whoMoves := goodIn_r _ [72, 1, 23, 19, 20, 21, 6, 22, 24, 25, 26, 27, 28, 29, 8, 9, 10, 11, 12, 13, 14, 30, 31, 32, 33, 34, 35, 36, 37, 38, 39, 40, 41, 42, 43, 44, 45, 46, 47, 48, 49, 50, 51, 52, 53, 54, 55, 56, 57, 58, 59, 60, 82, 83, 84, 85, 86, 87, 88, 89, 90, 91, 92, 93, 94, 95, 96, 97, 98, 99, 100, 101, 102, 103, 104] (by decide +kernel) (by decide +kernel)
set_option maxRecDepth 20000 in
theorem gX5_now_X5_whoMoves : GoodIn wsX5_now (wsV RX5 174 RX5 yX5_whoMoves wsX5_whoMoves) := goodIn_app (goodIn_of _ (by decide +kernel)) ggX5_now_X5_whoMoves
set_option maxRecDepth 20000 in
theorem ggX5_now_X5_richest : GoodIn wsX5_now wsX5_richest := goodIn_r _ [76, 1, 8, 9, 10, 6, 11, 12, 13, 14, 82, 83, 84, 85, 86, 87, 88, 89, 90, 91, 92, 93, 94, 95, 96, 97, 98, 99, 100, 101, 102, 103, 104] (by decide +kernel) (by decide +kernel)
set_option maxRecDepth 20000 in
theorem gX5_now_X5_richest : GoodIn wsX5_now (wsV RX5 177 RX5 yX5_richest wsX5_richest) := goodIn_app (goodIn_of _ (by decide +kernel)) ggX5_now_X5_richest
set_option maxRecDepth 20000 in
theorem ggX5_now_X5_finding : GoodIn wsX5_now wsX5_finding := goodIn_r _ [80, 81, 2, 82, 83, 84, 85, 86, 87, 88, 89, 90, 91, 92, 93, 94, 95, 96, 97, 98, 99, 100, 101, 102, 103, 104] (by decide +kernel) (by decide +kernel)
set_option maxRecDepth 20000 in
theorem gX5_now_X5_finding : GoodIn wsX5_now (wsV RX5 76 RX5 yX5_finding wsX5_finding) := goodIn_app (goodIn_of _ (by decide +kernel)) ggX5_now_X5_finding
theorem dX5_now_0 : decode cX5_now 0 = .ok (.iload_n 1, 1) := by decide +kernel
theorem dX5_now_1 : decode cX5_now 1 = .ok (.tableswitch 71 0 5 #[39, 46, 51, 56, 61, 66], 39) := by decide +kernel
theorem dX5_now_40 : decode cX5_now 40 = .ok (.aload_n 0, 1) := by decide +kernel
theorem dX5_now_41 : decode cX5_now 41 = .ok (.getfield 9, 3) := by decide +kernel
theorem dX5_now_44 : decode cX5_now 44 = .ok (.iconst 0, 1) := by decide +kernel
theorem dX5_now_45 : decode cX5_now 45 = .ok (.iaload, 1) := by decide +kernel
theorem dX5_now_46 : decode cX5_now 46 = .ok (.ireturn, 1) := by decide +kernel
theorem dX5_now_47 : decode cX5_now 47 = .ok (.aload_n 0, 1) := by decide +kernel
theorem dX5_now_48 : decode cX5_now 48 = .ok (.invokevirtual 164, 3) := by decide +kernel
theorem dX5_now_51 : decode cX5_now 51 = .ok (.ireturn, 1) := by decide +kernel
theorem dX5_now_52 : decode cX5_now 52 = .ok (.aload_n 0, 1) := by decide +kernel
theorem dX5_now_53 : decode cX5_now 53 = .ok (.invokevirtual 168, 3) := by decide +kernel
theorem dX5_now_56 : decode cX5_now 56 = .ok (.ireturn, 1) := by decide +kernel
theorem dX5_now_57 : decode cX5_now 57 = .ok (.aload_n 0, 1) := by decide +kernel
theorem dX5_now_58 : decode cX5_now 58 = .ok (.invokevirtual 171, 3) := by decide +kernel
theorem dX5_now_61 : decode cX5_now 61 = .ok (.ireturn, 1) := by decide +kernel
theorem dX5_now_62 : decode cX5_now 62 = .ok (.aload_n 0, 1) := by decide +kernel
theorem dX5_now_63 : decode cX5_now 63 = .ok (.invokevirtual 174, 3) := by decide +kernel
theorem dX5_now_66 : decode cX5_now 66 = .ok (.ireturn, 1) := by decide +kernel
theorem dX5_now_67 : decode cX5_now 67 = .ok (.aload_n 0, 1) := by decide +kernel
theorem dX5_now_68 : decode cX5_now 68 = .ok (.invokevirtual 177, 3) := by decide +kernel
theorem dX5_now_71 : decode cX5_now 71 = .ok (.ireturn, 1) := by decide +kernel
theorem dX5_now_72 : decode cX5_now 72 = .ok (.aload_n 0, 1) := by decide +kernel
theorem dX5_now_73 : decode cX5_now 73 = .ok (.ldc 70, 2) := by decide +kernel
theorem dX5_now_75 : decode cX5_now 75 = .ok (.invokevirtual 76, 3) := by decide +kernel
theorem dX5_now_78 : decode cX5_now 78 = .ok (.ireturn, 1) := by decide +kernel
set_option maxRecDepth 20000 in
theorem ggX5_behind_X5_copyRow : GoodIn wsX5_behind wsX5_copyRow := goodIn_r _ [6] (by decide +kernel) (by decide +kernel)
set_option maxRecDepth 20000 in
theorem gX5_behind_X5_copyRow : GoodIn wsX5_behind (va_wsS RX5 71 yX5_copyRow wsX5_copyRow) := goodIn_app (goodIn_of _ (by decide +kernel)) ggX5_behind_X5_copyRow
set_option maxRecDepth 20000 in
theorem ggX5_behind_X5_goesOn : GoodIn wsX5_behind wsX5_goesOn := goodIn_r _ [10, 11, 12, 13, 5, 14, 1, 15, 16, 17, 18, 19, 20, 21, 22, 23, 24, 25, 26, 27, 28, 29, 30, 31, 32, 33, 34, 35, 36, 37, 38, 39, 40, 41, 42, 43, 44, 45, 46, 47, 48, 49, 50, 51, 52, 53, 54, 55, 56, 57, 58, 59, 60, 61, 62, 63, 64, 65, 66, 67, 72, 73, 74, 75, 76, 77, 78, 79, 80, 81, 82, 83, 84, 85, 86, 87, 88, 89, 90, 91, 92, 93, 94] (by decide +kernel) (by decide +kernel)
set_option maxRecDepth 20000 in
theorem gX5_behind_X5_goesOn : GoodIn wsX5_behind (wsV RX5 160 RX5 yX5_goesOn wsX5_goesOn) := goodIn_app (goodIn_of _ (by decide +kernel)) ggX5_behind_X5_goesOn
set_option maxRecDepth 20000 in
theorem ggX5_behind_X5_putBack : GoodIn wsX5_behind wsX5_putBack := goodIn_r _ [71, 2, 1, 3, 4, 5, 6, 72, 73, 74, 75, 76, 77, 78, 79, 80, 81, 82, 83, 84, 85, 86, 87, 88, 89, 90, 91, 92, 93, 94] (by decide +kernel) (by decide +kernel)
set_option maxRecDepth 20000 in
theorem gX5_behind_X5_putBack : GoodIn wsX5_behind (wsV RX5 180 RX5 yX5_putBack wsX5_putBack) := goodIn_app (goodIn_of _ (by decide +kernel)) ggX5_behind_X5_putBack
theorem dX5_behind_0 : decode cX5_behind 0 = .ok (.aload_n 0, 1) := by decide +kernel
theorem dX5_behind_1 : decode cX5_behind 1 = .ok (.getfield 9, 3) := by decide +kernel
theorem dX5_behind_4 : decode cX5_behind 4 = .ok (.aload_n 0, 1) := by decide +kernel
theorem dX5_behind_5 : decode cX5_behind 5 = .ok (.getfield 16, 3) := by decide +kernel
theorem dX5_behind_8 : decode cX5_behind 8 = .ok (.invokestatic 71, 3) := by decide +kernel
theorem dX5_behind_11 : decode cX5_behind 11 = .ok (.aload_n 0, 1) := by decide +kernel
theorem dX5_behind_12 : decode cX5_behind 12 = .ok (.iload_n 2, 1) := by decide +kernel
theorem dX5_behind_13 : decode cX5_behind 13 = .ok (.invokevirtual 160, 3) := by decide +kernel
theorem dX5_behind_16 : decode cX5_behind 16 = .ok (.aload_n 0, 1) := by decide +kernel
theorem dX5_behind_17 : decode cX5_behind 17 = .ok (.aload_n 0, 1) := by decide +kernel
theorem dX5_behind_18 : decode cX5_behind 18 = .ok (.getfield 9, 3) := by decide +kernel
theorem dX5_behind_21 : decode cX5_behind 21 = .ok (.iload_n 1, 1) := by decide +kernel
theorem dX5_behind_22 : decode cX5_behind 22 = .ok (.iaload, 1) := by decide +kernel
theorem dX5_behind_23 : decode cX5_behind 23 = .ok (.invokevirtual 180, 3) := by decide +kernel
theorem dX5_behind_26 : decode cX5_behind 26 = .ok (.ireturn, 1) := by decide +kernel
set_option maxRecDepth 20000 in
theorem ggX5_isAhead_X5_within : GoodIn wsX5_isAhead wsX5_within := goodIn_r _ [4] (by decide +kernel) (by decide +kernel)
set_option maxRecDepth 20000 in
theorem gX5_isAhead_X5_within : GoodIn wsX5_isAhead (va_wsS RX5 80 yX5_within wsX5_within) := goodIn_app (goodIn_of _ (by decide +kernel)) ggX5_isAhead_X5_within
theorem dX5_isAhead_0 : decode cX5_isAhead 0 = .ok (.iload_n 0, 1) := by decide +kernel
theorem dX5_isAhead_1 : decode cX5_isAhead 1 = .ok (.iconst 0, 1) := by decide +kernel
theorem dX5_isAhead_2 : decode cX5_isAhead 2 = .ok (.bipush 100, 2) := by decide +kernel
theorem dX5_isAhead_4 : decode cX5_isAhead 4 = .ok (.invokestatic 80, 3) := by decide +kernel
theorem dX5_isAhead_7 : decode cX5_isAhead 7 = .ok (.ireturn, 1) := by decide +kernel
set_option maxRecDepth 20000 in
theorem ggX5_ahead_X5_isPerson : GoodIn wsX5_ahead wsX5_isPerson := goodIn_r _ [6, 7, 8, 9, 5, 10, 92, 93, 94, 95, 96, 97, 98, 99, 100, 101, 102, 103, 104, 105, 106, 107, 108, 109, 110, 111, 112, 113, 114] (by decide +kernel) (by decide +kernel)
set_option maxRecDepth 20000 in
theorem gX5_ahead_X5_isPerson : GoodIn wsX5_ahead (wsV RX5 143 RX5 yX5_isPerson wsX5_isPerson) := goodIn_app (goodIn_of _ (by decide +kernel)) ggX5_ahead_X5_isPerson
set_option maxRecDepth 20000 in
theorem ggX5_ahead_X5_isAhead : GoodIn wsX5_ahead wsX5_isAhead := goodIn_r _ [13, 8, 9, 5, 10] (by decide +kernel) (by decide +kernel)
set_option maxRecDepth 20000 in
theorem gX5_ahead_X5_isAhead : GoodIn wsX5_ahead (va_wsS RX5 183 yX5_isAhead wsX5_isAhead) := goodIn_app (goodIn_of _ (by decide +kernel)) ggX5_ahead_X5_isAhead
set_option maxRecDepth 20000 in
theorem ggX5_ahead_X5_at : GoodIn wsX5_ahead wsX5_at := goodIn_r _ [16] (by decide +kernel) (by decide +kernel)
set_option maxRecDepth 20000 in
theorem gX5_ahead_X5_at : GoodIn wsX5_ahead (va_wsS RX5 84 yX5_at wsX5_at) := goodIn_app (goodIn_of _ (by decide +kernel)) ggX5_ahead_X5_at
set_option maxRecDepth 20000 in
theorem ggX5_ahead_X5_behind : GoodIn wsX5_ahead wsX5_behind := goodIn_r _ [20, 7, 21, 22, 23, 5, 24, 25, 26, 27, 28, 29, 30, 31, 32, 33, 34, 35, 36, 37, 38, 39, 40, 41, 42, 43, 44, 45, 46, 47, 48, 49, 50, 51, 52, 14, 15, 16, 53, 54, 55, 56, 57, 58, 59, 60, 61, 62, 63, 64, 65, 66, 67, 68, 69, 70, 71, 72, 73, 74, 75, 76, 77, 78, 79, 80, 81, 82, 83, 84, 85, 86, 92, 93, 94, 95, 96, 97, 98, 99, 100, 101, 102, 103, 104, 105, 106, 107, 108, 109, 110, 111, 112, 113, 114] (by decide +kernel) (by decide +kernel)
set_option maxRecDepth 20000 in
theorem gX5_ahead_X5_behind : GoodIn wsX5_ahead (wsV RX5 186 RX5 yX5_behind wsX5_behind) := goodIn_app (goodIn_of _ (by decide +kernel)) ggX5_ahead_X5_behind
set_option maxRecDepth 20000 in
theorem ggX5_ahead_X5_finding : GoodIn wsX5_ahead wsX5_finding := goodIn_r _ [90, 91, 1, 92, 93, 94, 95, 96, 97, 98, 99, 100, 101, 102, 103, 104, 105, 106, 107, 108, 109, 110, 111, 112, 113, 114] (by decide +kernel) (by decide +kernel)
set_option maxRecDepth 20000 in
theorem gX5_ahead_X5_finding : GoodIn wsX5_ahead (wsV RX5 76 RX5 yX5_finding wsX5_finding) := goodIn_app (goodIn_of _ (by decide +kernel)) ggX5_ahead_X5_finding
theorem dX5_ahead_0 : decode cX5_ahead 0 = .ok (.aload_n 0, 1) := by decide +kernel
theorem dX5_ahead_1 : decode cX5_ahead 1 = .ok (.iload_n 1, 1) := by decide +kernel
theorem dX5_ahead_2 : decode cX5_ahead 2 = .ok (.invokevirtual 143, 3) := by decide +kernel
theorem dX5_ahead_5 : decode cX5_ahead 5 = .ok (.ifCond .eq 23, 3) := by decide +kernel
theorem dX5_ahead_8 : decode cX5_ahead 8 = .ok (.iload_n 2, 1) := by decide +kernel
theorem dX5_ahead_9 : decode cX5_ahead 9 = .ok (.invokestatic 183, 3) := by decide +kernel
theorem dX5_ahead_12 : decode cX5_ahead 12 = .ok (.ifCond .eq 16, 3) := by decide +kernel
theorem dX5_ahead_15 : decode cX5_ahead 15 = .ok (.aload_n 0, 1) := by decide +kernel
theorem dX5_ahead_16 : decode cX5_ahead 16 = .ok (.iload_n 1, 1) := by decide +kernel
theorem dX5_ahead_17 : decode cX5_ahead 17 = .ok (.iconst 4, 1) := by decide +kernel
theorem dX5_ahead_18 : decode cX5_ahead 18 = .ok (.invokestatic 84, 3) := by decide +kernel
theorem dX5_ahead_21 : decode cX5_ahead 21 = .ok (.iload_n 2, 1) := by decide +kernel
theorem dX5_ahead_22 : decode cX5_ahead 22 = .ok (.invokevirtual 186, 3) := by decide +kernel
theorem dX5_ahead_25 : decode cX5_ahead 25 = .ok (.goto 9, 3) := by decide +kernel
theorem dX5_ahead_28 : decode cX5_ahead 28 = .ok (.aload_n 0, 1) := by decide +kernel
theorem dX5_ahead_29 : decode cX5_ahead 29 = .ok (.ldc 70, 2) := by decide +kernel
theorem dX5_ahead_31 : decode cX5_ahead 31 = .ok (.invokevirtual 76, 3) := by decide +kernel
theorem dX5_ahead_34 : decode cX5_ahead 34 = .ok (.ireturn, 1) := by decide +kernel
set_option maxRecDepth 20000 in
theorem ggX5_plan_X5_isPerson : GoodIn wsX5_plan wsX5_isPerson := goodIn_r _ [6, 7, 8, 9, 5, 10, 92, 93, 94, 95, 96, 97, 98, 99, 100, 101, 102, 103, 104, 105, 106, 107, 108, 109, 110, 111, 112, 113, 114] (by decide +kernel) (by decide +kernel)
set_option maxRecDepth 20000 in
theorem gX5_plan_X5_isPerson : GoodIn wsX5_plan (wsV RX5 143 RX5 yX5_isPerson wsX5_isPerson) := goodIn_app (goodIn_of _ (by decide +kernel)) ggX5_plan_X5_isPerson
set_option maxRecDepth 20000 in
theorem ggX5_plan_X5_isAhead : GoodIn wsX5_plan wsX5_isAhead := goodIn_r _ [13, 8, 9, 5, 10] (by decide +kernel) (by decide +kernel)
set_option maxRecDepth 20000 in
theorem gX5_plan_X5_isAhead : GoodIn wsX5_plan (va_wsS RX5 183 yX5_isAhead wsX5_isAhead) := goodIn_app (goodIn_of _ (by decide +kernel)) ggX5_plan_X5_isAhead
set_option maxRecDepth 20000 in
theorem ggX5_plan_X5_at : GoodIn wsX5_plan wsX5_at := goodIn_r _ [16] (by decide +kernel) (by decide +kernel)
set_option maxRecDepth 20000 in
theorem gX5_plan_X5_at : GoodIn wsX5_plan (va_wsS RX5 84 yX5_at wsX5_at) := goodIn_app (goodIn_of _ (by decide +kernel)) ggX5_plan_X5_at
set_option maxRecDepth 20000 in
theorem ggX5_plan_X5_behind : GoodIn wsX5_plan wsX5_behind := goodIn_r _ [20, 7, 21, 22, 23, 5, 24, 25, 26, 27, 28, 29, 30, 31, 32, 33, 34, 35, 36, 37, 38, 39, 40, 41, 42, 43, 44, 45, 46, 47, 48, 49, 50, 51, 52, 14, 15, 16, 53, 54, 55, 56, 57, 58, 59, 60, 61, 62, 63, 64, 65, 66, 67, 68, 69, 70, 71, 72, 73, 74, 75, 76, 77, 78, 79, 80, 81, 82, 83, 84, 85, 86, 92, 93, 94, 95, 96, 97, 98, 99, 100, 101, 102, 103, 104, 105, 106, 107, 108, 109, 110, 111, 112, 113, 114] (by decide +kernel) (by decide +kernel)
set_option maxRecDepth 20000 in
theorem gX5_plan_X5_behind : GoodIn wsX5_plan (wsV RX5 186 RX5 yX5_behind wsX5_behind) := goodIn_app (goodIn_of _ (by decide +kernel)) ggX5_plan_X5_behind
set_option maxRecDepth 20000 in
theorem ggX5_plan_X5_finding : GoodIn wsX5_plan wsX5_finding := goodIn_r _ [90, 91, 1, 92, 93, 94, 95, 96, 97, 98, 99, 100, 101, 102, 103, 104, 105, 106, 107, 108, 109, 110, 111, 112, 113, 114] (by decide +kernel) (by decide +kernel)
set_option maxRecDepth 20000 in
theorem gX5_plan_X5_finding : GoodIn wsX5_plan (wsV RX5 76 RX5 yX5_finding wsX5_finding) := goodIn_app (goodIn_of _ (by decide +kernel)) ggX5_plan_X5_finding
theorem dX5_plan_0 : decode cX5_plan 0 = .ok (.aload_n 0, 1) := by decide +kernel
theorem dX5_plan_1 : decode cX5_plan 1 = .ok (.iload_n 1, 1) := by decide +kernel
theorem dX5_plan_2 : decode cX5_plan 2 = .ok (.invokevirtual 143, 3) := by decide +kernel
theorem dX5_plan_5 : decode cX5_plan 5 = .ok (.ifCond .eq 23, 3) := by decide +kernel
theorem dX5_plan_8 : decode cX5_plan 8 = .ok (.iload_n 2, 1) := by decide +kernel
theorem dX5_plan_9 : decode cX5_plan 9 = .ok (.invokestatic 183, 3) := by decide +kernel
theorem dX5_plan_12 : decode cX5_plan 12 = .ok (.ifCond .eq 16, 3) := by decide +kernel
theorem dX5_plan_15 : decode cX5_plan 15 = .ok (.aload_n 0, 1) := by decide +kernel
theorem dX5_plan_16 : decode cX5_plan 16 = .ok (.iload_n 1, 1) := by decide +kernel
theorem dX5_plan_17 : decode cX5_plan 17 = .ok (.iconst 1, 1) := by decide +kernel
theorem dX5_plan_18 : decode cX5_plan 18 = .ok (.invokestatic 84, 3) := by decide +kernel
theorem dX5_plan_21 : decode cX5_plan 21 = .ok (.iload_n 2, 1) := by decide +kernel
theorem dX5_plan_22 : decode cX5_plan 22 = .ok (.invokevirtual 186, 3) := by decide +kernel
theorem dX5_plan_25 : decode cX5_plan 25 = .ok (.goto 9, 3) := by decide +kernel
theorem dX5_plan_28 : decode cX5_plan 28 = .ok (.aload_n 0, 1) := by decide +kernel
theorem dX5_plan_29 : decode cX5_plan 29 = .ok (.ldc 70, 2) := by decide +kernel
theorem dX5_plan_31 : decode cX5_plan 31 = .ok (.invokevirtual 76, 3) := by decide +kernel
theorem dX5_plan_34 : decode cX5_plan 34 = .ok (.ireturn, 1) := by decide +kernel
set_option maxRecDepth 20000 in
theorem ggX5_rests_X5_copyRow : GoodIn wsX5_rests wsX5_copyRow := goodIn_r _ [6] (by decide +kernel) (by decide +kernel)
set_option maxRecDepth 20000 in
theorem gX5_rests_X5_copyRow : GoodIn wsX5_rests (va_wsS RX5 71 yX5_copyRow wsX5_copyRow) := goodIn_app (goodIn_of _ (by decide +kernel)) ggX5_rests_X5_copyRow
set_option maxRecDepth 20000 in
theorem ggX5_rests_X5_whoMoves : GoodIn wsX5_rests wsX5_whoMoves := goodIn_r _ [10, 1, 11, 12, 13, 14, 5, 15, 16, 17, 18, 19, 20, 21, 22, 23, 24, 25, 26, 27, 28, 29, 30, 31, 32, 33, 34, 35, 36, 37, 38, 39, 40, 41, 42, 43, 44, 45, 46, 47, 48, 49, 50, 51, 52, 53, 54, 55, 56, 57, 58, 59, 83, 84, 85, 86, 87, 88, 89, 90, 91, 92, 93, 94, 95, 96, 97, 98, 99, 100, 101, 102, 103, 104, 105] (by decide +kernel) (by decide +kernel)
set_option maxRecDepth 20000 in
theorem gX5_rests_X5_whoMoves : GoodIn wsX5_rests (wsV RX5 174 RX5 yX5_whoMoves wsX5_whoMoves) := goodIn_app (goodIn_of _ (by decide +kernel)) ggX5_rests_X5_whoMoves
set_option maxRecDepth 20000 in
theorem ggX5_rests_X5_goes : GoodIn wsX5_rests wsX5_goes := goodIn_r _ [63, 1, 64, 17, 65, 66, 54, 67, 16, 11, 12, 13, 14, 5, 15, 18, 19, 20, 21, 22, 23, 24, 25, 26, 27, 28, 29, 30, 31, 32, 33, 34, 35, 36, 37, 38, 39, 40, 41, 42, 43, 44, 45, 46, 47, 48, 49, 50, 51, 52, 53, 55, 56, 57, 58, 59, 83, 84, 85, 86, 87, 88, 89, 90, 91, 92, 93, 94, 95, 96, 97, 98, 99, 100, 101, 102, 103, 104, 105] (by decide +kernel) (by decide +kernel)
set_option maxRecDepth 20000 in
theorem gX5_rests_X5_goes : GoodIn wsX5_rests (wsV RX5 156 RX5 yX5_goes wsX5_goes) := goodIn_app (goodIn_of _ (by decide +kernel)) ggX5_rests_X5_goes
set_option maxRecDepth 20000 in
theorem ggX5_rests_X5_putBack : GoodIn wsX5_rests wsX5_putBack := goodIn_r _ [71, 2, 1, 3, 4, 5, 6, 83, 84, 85, 86, 87, 88, 89, 90, 91, 92, 93, 94, 95, 96, 97, 98, 99, 100, 101, 102, 103, 104, 105] (by decide +kernel) (by decide +kernel)
set_option maxRecDepth 20000 in
theorem gX5_rests_X5_putBack : GoodIn wsX5_rests (wsV RX5 180 RX5 yX5_putBack wsX5_putBack) := goodIn_app (goodIn_of _ (by decide +kernel)) ggX5_rests_X5_putBack
set_option maxRecDepth 20000 in
theorem ggX5_rests_X5_orNone : GoodIn wsX5_rests wsX5_orNone := goodIn_r _ [75, 76, 77, 78, 79, 5, 80, 81, 82, 83, 84, 85, 86, 87, 88, 89, 90, 91, 92, 93, 94, 95, 96, 97, 98, 99, 100, 101, 102, 103, 104, 105] (by decide +kernel) (by decide +kernel)
set_option maxRecDepth 20000 in
theorem gX5_rests_X5_orNone : GoodIn wsX5_rests (wsV RX5 189 RX5 yX5_orNone wsX5_orNone) := goodIn_app (goodIn_of _ (by decide +kernel)) ggX5_rests_X5_orNone
theorem dX5_rests_0 : decode cX5_rests 0 = .ok (.aload_n 0, 1) := by decide +kernel
theorem dX5_rests_1 : decode cX5_rests 1 = .ok (.getfield 9, 3) := by decide +kernel
theorem dX5_rests_4 : decode cX5_rests 4 = .ok (.aload_n 0, 1) := by decide +kernel
theorem dX5_rests_5 : decode cX5_rests 5 = .ok (.getfield 16, 3) := by decide +kernel
theorem dX5_rests_8 : decode cX5_rests 8 = .ok (.invokestatic 71, 3) := by decide +kernel
theorem dX5_rests_11 : decode cX5_rests 11 = .ok (.iconst 0, 1) := by decide +kernel
theorem dX5_rests_12 : decode cX5_rests 12 = .ok (.istore_n 1, 1) := by decide +kernel
theorem dX5_rests_13 : decode cX5_rests 13 = .ok (.iload_n 1, 1) := by decide +kernel
theorem dX5_rests_14 : decode cX5_rests 14 = .ok (.bipush 100, 2) := by decide +kernel
theorem dX5_rests_16 : decode cX5_rests 16 = .ok (.if_icmp .ge 20, 3) := by decide +kernel
theorem dX5_rests_19 : decode cX5_rests 19 = .ok (.aload_n 0, 1) := by decide +kernel
theorem dX5_rests_20 : decode cX5_rests 20 = .ok (.invokevirtual 174, 3) := by decide +kernel
theorem dX5_rests_23 : decode cX5_rests 23 = .ok (.ifCond .eq 13, 3) := by decide +kernel
theorem dX5_rests_26 : decode cX5_rests 26 = .ok (.aload_n 0, 1) := by decide +kernel
theorem dX5_rests_27 : decode cX5_rests 27 = .ok (.invokevirtual 156, 3) := by decide +kernel
theorem dX5_rests_30 : decode cX5_rests 30 = .ok (.iinc 1 1, 3) := by decide +kernel
theorem dX5_rests_33 : decode cX5_rests 33 = .ok (.goto (-20), 3) := by decide +kernel
theorem dX5_rests_36 : decode cX5_rests 36 = .ok (.aload_n 0, 1) := by decide +kernel
theorem dX5_rests_37 : decode cX5_rests 37 = .ok (.aload_n 0, 1) := by decide +kernel
theorem dX5_rests_38 : decode cX5_rests 38 = .ok (.aload_n 0, 1) := by decide +kernel
theorem dX5_rests_39 : decode cX5_rests 39 = .ok (.invokevirtual 174, 3) := by decide +kernel
theorem dX5_rests_42 : decode cX5_rests 42 = .ok (.ifCond .ne 7, 3) := by decide +kernel
theorem dX5_rests_45 : decode cX5_rests 45 = .ok (.iload_n 1, 1) := by decide +kernel
theorem dX5_rests_46 : decode cX5_rests 46 = .ok (.goto 4, 3) := by decide +kernel
theorem dX5_rests_49 : decode cX5_rests 49 = .ok (.iconst (-1), 1) := by decide +kernel
theorem dX5_rests_50 : decode cX5_rests 50 = .ok (.invokevirtual 180, 3) := by decide +kernel
theorem dX5_rests_53 : decode cX5_rests 53 = .ok (.invokevirtual 189, 3) := by decide +kernel
theorem dX5_rests_56 : decode cX5_rests 56 = .ok (.ireturn, 1) := by decide +kernel
set_option maxRecDepth 20000 in
theorem ggX5_arePlansAside_X5_at : GoodIn wsX5_arePlansAside wsX5_at := goodIn_r _ [6] (by decide +kernel) (by decide +kernel)
set_option maxRecDepth 20000 in
theorem gX5_arePlansAside_X5_at : GoodIn wsX5_arePlansAside (va_wsS RX5 84 yX5_at wsX5_at) := goodIn_app (goodIn_of _ (by decide +kernel)) ggX5_arePlansAside_X5_at
theorem dX5_arePlansAside_0 : decode cX5_arePlansAside 0 = .ok (.iconst 1, 1) := by decide +kernel
theorem dX5_arePlansAside_1 : decode cX5_arePlansAside 1 = .ok (.istore_n 1, 1) := by decide +kernel
theorem dX5_arePlansAside_2 : decode cX5_arePlansAside 2 = .ok (.iconst 0, 1) := by decide +kernel
theorem dX5_arePlansAside_3 : decode cX5_arePlansAside 3 = .ok (.istore_n 2, 1) := by decide +kernel
theorem dX5_arePlansAside_4 : decode cX5_arePlansAside 4 = .ok (.iload_n 2, 1) := by decide +kernel
theorem dX5_arePlansAside_5 : decode cX5_arePlansAside 5 = .ok (.aload_n 0, 1) := by decide +kernel
theorem dX5_arePlansAside_6 : decode cX5_arePlansAside 6 = .ok (.getfield 9, 3) := by decide +kernel
theorem dX5_arePlansAside_9 : decode cX5_arePlansAside 9 = .ok (.iconst 1, 1) := by decide +kernel
theorem dX5_arePlansAside_10 : decode cX5_arePlansAside 10 = .ok (.iaload, 1) := by decide +kernel
theorem dX5_arePlansAside_11 : decode cX5_arePlansAside 11 = .ok (.if_icmp .ge 42, 3) := by decide +kernel
theorem dX5_arePlansAside_14 : decode cX5_arePlansAside 14 = .ok (.iload_n 1, 1) := by decide +kernel
theorem dX5_arePlansAside_15 : decode cX5_arePlansAside 15 = .ok (.ifCond .eq 30, 3) := by decide +kernel
theorem dX5_arePlansAside_18 : decode cX5_arePlansAside 18 = .ok (.aload_n 0, 1) := by decide +kernel
theorem dX5_arePlansAside_19 : decode cX5_arePlansAside 19 = .ok (.getfield 9, 3) := by decide +kernel
theorem dX5_arePlansAside_22 : decode cX5_arePlansAside 22 = .ok (.iload_n 2, 1) := by decide +kernel
theorem dX5_arePlansAside_23 : decode cX5_arePlansAside 23 = .ok (.iconst 1, 1) := by decide +kernel
theorem dX5_arePlansAside_24 : decode cX5_arePlansAside 24 = .ok (.invokestatic 84, 3) := by decide +kernel
theorem dX5_arePlansAside_27 : decode cX5_arePlansAside 27 = .ok (.iaload, 1) := by decide +kernel
theorem dX5_arePlansAside_28 : decode cX5_arePlansAside 28 = .ok (.aload_n 0, 1) := by decide +kernel
theorem dX5_arePlansAside_29 : decode cX5_arePlansAside 29 = .ok (.getfield 16, 3) := by decide +kernel
theorem dX5_arePlansAside_32 : decode cX5_arePlansAside 32 = .ok (.iload_n 2, 1) := by decide +kernel
theorem dX5_arePlansAside_33 : decode cX5_arePlansAside 33 = .ok (.iconst 1, 1) := by decide +kernel
theorem dX5_arePlansAside_34 : decode cX5_arePlansAside 34 = .ok (.invokestatic 84, 3) := by decide +kernel
theorem dX5_arePlansAside_37 : decode cX5_arePlansAside 37 = .ok (.iaload, 1) := by decide +kernel
theorem dX5_arePlansAside_38 : decode cX5_arePlansAside 38 = .ok (.if_icmp .ne 7, 3) := by decide +kernel
theorem dX5_arePlansAside_41 : decode cX5_arePlansAside 41 = .ok (.iconst 1, 1) := by decide +kernel
theorem dX5_arePlansAside_42 : decode cX5_arePlansAside 42 = .ok (.goto 4, 3) := by decide +kernel
theorem dX5_arePlansAside_45 : decode cX5_arePlansAside 45 = .ok (.iconst 0, 1) := by decide +kernel
theorem dX5_arePlansAside_46 : decode cX5_arePlansAside 46 = .ok (.istore_n 1, 1) := by decide +kernel
theorem dX5_arePlansAside_47 : decode cX5_arePlansAside 47 = .ok (.iinc 2 1, 3) := by decide +kernel
theorem dX5_arePlansAside_50 : decode cX5_arePlansAside 50 = .ok (.goto (-46), 3) := by decide +kernel
theorem dX5_arePlansAside_53 : decode cX5_arePlansAside 53 = .ok (.iload_n 1, 1) := by decide +kernel
theorem dX5_arePlansAside_54 : decode cX5_arePlansAside 54 = .ok (.ireturn, 1) := by decide +kernel
set_option maxRecDepth 20000 in
theorem ggX5_round_X5_copyRow : GoodIn wsX5_round wsX5_copyRow := goodIn_r _ [6] (by decide +kernel) (by decide +kernel)
set_option maxRecDepth 20000 in
theorem gX5_round_X5_copyRow : GoodIn wsX5_round (va_wsS RX5 71 yX5_copyRow wsX5_copyRow) := goodIn_app (goodIn_of _ (by decide +kernel)) ggX5_round_X5_copyRow
set_option maxRecDepth 20000 in
theorem ggX5_round_X5_goes : GoodIn wsX5_round wsX5_goes := goodIn_r _ [10, 1, 11, 12, 13, 14, 15, 16, 17, 18, 19, 20, 21, 5, 22, 23, 24, 25, 26, 27, 28, 29, 30, 31, 32, 33, 34, 35, 36, 37, 38, 39, 40, 41, 42, 43, 44, 45, 46, 47, 48, 49, 50, 51, 52, 53, 54, 55, 56, 57, 58, 59, 60, 61, 62, 63, 83, 84, 85, 86, 87, 88, 89, 90, 91, 92, 93, 94, 95, 96, 97, 98, 99, 100, 101, 102, 103, 104, 105] (by decide +kernel) (by decide +kernel)
set_option maxRecDepth 20000 in
theorem gX5_round_X5_goes : GoodIn wsX5_round (wsV RX5 156 RX5 yX5_goes wsX5_goes) := goodIn_app (goodIn_of _ (by decide +kernel)) ggX5_round_X5_goes
set_option maxRecDepth 20000 in
theorem ggX5_round_X5_arePlansAside : GoodIn wsX5_round wsX5_arePlansAside := goodIn_r _ [67, 1, 2, 31, 32, 5, 33, 83, 84, 85, 86, 87, 88, 89, 90, 91, 92, 93, 94, 95, 96, 97, 98, 99, 100, 101, 102, 103, 104, 105] (by decide +kernel) (by decide +kernel)
set_option maxRecDepth 20000 in
theorem gX5_round_X5_arePlansAside : GoodIn wsX5_round (wsV RX5 192 RX5 yX5_arePlansAside wsX5_arePlansAside) := goodIn_app (goodIn_of _ (by decide +kernel)) ggX5_round_X5_arePlansAside
set_option maxRecDepth 20000 in
theorem ggX5_round_X5_putBack : GoodIn wsX5_round wsX5_putBack := goodIn_r _ [71, 2, 1, 3, 4, 5, 6, 83, 84, 85, 86, 87, 88, 89, 90, 91, 92, 93, 94, 95, 96, 97, 98, 99, 100, 101, 102, 103, 104, 105] (by decide +kernel) (by decide +kernel)
set_option maxRecDepth 20000 in
theorem gX5_round_X5_putBack : GoodIn wsX5_round (wsV RX5 180 RX5 yX5_putBack wsX5_putBack) := goodIn_app (goodIn_of _ (by decide +kernel)) ggX5_round_X5_putBack
set_option maxRecDepth 20000 in
theorem ggX5_round_X5_orNone : GoodIn wsX5_round wsX5_orNone := goodIn_r _ [75, 76, 77, 78, 79, 5, 80, 81, 82, 83, 84, 85, 86, 87, 88, 89, 90, 91, 92, 93, 94, 95, 96, 97, 98, 99, 100, 101, 102, 103, 104, 105] (by decide +kernel) (by decide +kernel)
set_option maxRecDepth 20000 in
theorem gX5_round_X5_orNone : GoodIn wsX5_round (wsV RX5 189 RX5 yX5_orNone wsX5_orNone) := goodIn_app (goodIn_of _ (by decide +kernel)) ggX5_round_X5_orNone
theorem dX5_round_0 : decode cX5_round 0 = .ok (.aload_n 0, 1) := by decide +kernel
theorem dX5_round_1 : decode cX5_round 1 = .ok (.getfield 9, 3) := by decide +kernel
theorem dX5_round_4 : decode cX5_round 4 = .ok (.aload_n 0, 1) := by decide +kernel
theorem dX5_round_5 : decode cX5_round 5 = .ok (.getfield 16, 3) := by decide +kernel
theorem dX5_round_8 : decode cX5_round 8 = .ok (.invokestatic 71, 3) := by decide +kernel
theorem dX5_round_11 : decode cX5_round 11 = .ok (.aload_n 0, 1) := by decide +kernel
theorem dX5_round_12 : decode cX5_round 12 = .ok (.invokevirtual 156, 3) := by decide +kernel
theorem dX5_round_15 : decode cX5_round 15 = .ok (.iconst 1, 1) := by decide +kernel
theorem dX5_round_16 : decode cX5_round 16 = .ok (.istore_n 1, 1) := by decide +kernel
theorem dX5_round_17 : decode cX5_round 17 = .ok (.iload_n 1, 1) := by decide +kernel
theorem dX5_round_18 : decode cX5_round 18 = .ok (.bipush 100, 2) := by decide +kernel
theorem dX5_round_20 : decode cX5_round 20 = .ok (.if_icmp .ge 20, 3) := by decide +kernel
theorem dX5_round_23 : decode cX5_round 23 = .ok (.aload_n 0, 1) := by decide +kernel
theorem dX5_round_24 : decode cX5_round 24 = .ok (.invokevirtual 192, 3) := by decide +kernel
theorem dX5_round_27 : decode cX5_round 27 = .ok (.ifCond .ne 13, 3) := by decide +kernel
theorem dX5_round_30 : decode cX5_round 30 = .ok (.aload_n 0, 1) := by decide +kernel
theorem dX5_round_31 : decode cX5_round 31 = .ok (.invokevirtual 156, 3) := by decide +kernel
theorem dX5_round_34 : decode cX5_round 34 = .ok (.iinc 1 1, 3) := by decide +kernel
theorem dX5_round_37 : decode cX5_round 37 = .ok (.goto (-20), 3) := by decide +kernel
theorem dX5_round_40 : decode cX5_round 40 = .ok (.aload_n 0, 1) := by decide +kernel
theorem dX5_round_41 : decode cX5_round 41 = .ok (.aload_n 0, 1) := by decide +kernel
theorem dX5_round_42 : decode cX5_round 42 = .ok (.aload_n 0, 1) := by decide +kernel
theorem dX5_round_43 : decode cX5_round 43 = .ok (.invokevirtual 192, 3) := by decide +kernel
theorem dX5_round_46 : decode cX5_round 46 = .ok (.ifCond .eq 7, 3) := by decide +kernel
theorem dX5_round_49 : decode cX5_round 49 = .ok (.iload_n 1, 1) := by decide +kernel
theorem dX5_round_50 : decode cX5_round 50 = .ok (.goto 4, 3) := by decide +kernel
theorem dX5_round_53 : decode cX5_round 53 = .ok (.iconst (-1), 1) := by decide +kernel
theorem dX5_round_54 : decode cX5_round 54 = .ok (.invokevirtual 180, 3) := by decide +kernel
theorem dX5_round_57 : decode cX5_round 57 = .ok (.invokevirtual 189, 3) := by decide +kernel
theorem dX5_round_60 : decode cX5_round 60 = .ok (.ireturn, 1) := by decide +kernel
set_option maxRecDepth 20000 in
theorem ggX5_doMeet_X5_looksAt : GoodIn wsX5_doMeet wsX5_looksAt := goodIn_r _ [6, 7, 1, 8, 9, 10, 11, 12, 5, 13, 14, 15, 16, 17, 18, 19, 20, 21, 22, 23, 24, 25, 26, 27, 28, 29, 30, 31, 32, 33, 34, 35, 36, 37, 38, 39, 40, 41, 42, 43, 44, 45, 46, 47, 48, 49, 50, 51, 52, 53, 54, 55, 56, 57, 58, 59, 60, 61, 62, 63, 64, 65, 66, 67, 68, 69, 70, 71, 72, 73, 74] (by decide +kernel) (by decide +kernel)
set_option maxRecDepth 20000 in
theorem gX5_doMeet_X5_looksAt : GoodIn wsX5_doMeet (wsV RX5 140 RX5 yX5_looksAt wsX5_looksAt) := goodIn_app (goodIn_of _ (by decide +kernel)) ggX5_doMeet_X5_looksAt
theorem dX5_doMeet_0 : decode cX5_doMeet 0 = .ok (.aload_n 0, 1) := by decide +kernel
theorem dX5_doMeet_1 : decode cX5_doMeet 1 = .ok (.invokevirtual 140, 3) := by decide +kernel
theorem dX5_doMeet_4 : decode cX5_doMeet 4 = .ok (.aload_n 0, 1) := by decide +kernel
theorem dX5_doMeet_5 : decode cX5_doMeet 5 = .ok (.getfield 22, 3) := by decide +kernel
theorem dX5_doMeet_8 : decode cX5_doMeet 8 = .ok (.iload_n 1, 1) := by decide +kernel
theorem dX5_doMeet_9 : decode cX5_doMeet 9 = .ok (.iaload, 1) := by decide +kernel
theorem dX5_doMeet_10 : decode cX5_doMeet 10 = .ok (.aload_n 0, 1) := by decide +kernel
theorem dX5_doMeet_11 : decode cX5_doMeet 11 = .ok (.getfield 22, 3) := by decide +kernel
theorem dX5_doMeet_14 : decode cX5_doMeet 14 = .ok (.iload_n 2, 1) := by decide +kernel
theorem dX5_doMeet_15 : decode cX5_doMeet 15 = .ok (.iaload, 1) := by decide +kernel
theorem dX5_doMeet_16 : decode cX5_doMeet 16 = .ok (.if_icmp .ne 7, 3) := by decide +kernel
theorem dX5_doMeet_19 : decode cX5_doMeet 19 = .ok (.iconst 1, 1) := by decide +kernel
theorem dX5_doMeet_20 : decode cX5_doMeet 20 = .ok (.goto 4, 3) := by decide +kernel
theorem dX5_doMeet_23 : decode cX5_doMeet 23 = .ok (.iconst 0, 1) := by decide +kernel
theorem dX5_doMeet_24 : decode cX5_doMeet 24 = .ok (.ireturn, 1) := by decide +kernel
set_option maxRecDepth 20000 in
theorem ggX5_meet_X5_isPerson : GoodIn wsX5_meet wsX5_isPerson := goodIn_r _ [8, 2, 9, 10, 7, 11, 90, 91, 92, 93, 94, 95, 96, 97, 98, 99, 100, 101, 102, 103, 104, 105, 106, 107, 108, 109, 110, 111, 112] (by decide +kernel) (by decide +kernel)
set_option maxRecDepth 20000 in
theorem gX5_meet_X5_isPerson : GoodIn wsX5_meet (wsV RX5 143 RX5 yX5_isPerson wsX5_isPerson) := goodIn_app (goodIn_of _ (by decide +kernel)) ggX5_meet_X5_isPerson
set_option maxRecDepth 20000 in
theorem ggX5_meet_X5_finding : GoodIn wsX5_meet wsX5_finding := goodIn_r _ [15, 16, 1, 90, 91, 92, 93, 94, 95, 96, 97, 98, 99, 100, 101, 102, 103, 104, 105, 106, 107, 108, 109, 110, 111, 112] (by decide +kernel) (by decide +kernel)
set_option maxRecDepth 20000 in
theorem gX5_meet_X5_finding : GoodIn wsX5_meet (wsV RX5 76 RX5 yX5_finding wsX5_finding) := goodIn_app (goodIn_of _ (by decide +kernel)) ggX5_meet_X5_finding
set_option maxRecDepth 20000 in
theorem ggX5_meet_X5_copyRow : GoodIn wsX5_meet wsX5_copyRow := goodIn_r _ [19] (by decide +kernel) (by decide +kernel)
set_option maxRecDepth 20000 in
theorem gX5_meet_X5_copyRow : GoodIn wsX5_meet (va_wsS RX5 71 yX5_copyRow wsX5_copyRow) := goodIn_app (goodIn_of _ (by decide +kernel)) ggX5_meet_X5_copyRow
set_option maxRecDepth 20000 in
theorem ggX5_meet_X5_doMeet : GoodIn wsX5_meet wsX5_doMeet := goodIn_r _ [23, 24, 25, 26, 27, 7, 28, 2, 29, 30, 31, 32, 33, 34, 35, 36, 37, 38, 39, 40, 41, 42, 43, 44, 45, 46, 47, 48, 49, 50, 51, 52, 53, 54, 55, 56, 57, 58, 59, 60, 61, 62, 63, 64, 65, 66, 67, 68, 69, 70, 71, 72, 90, 91, 92, 93, 94, 95, 96, 97, 98, 99, 100, 101, 102, 103, 104, 105, 106, 107, 108, 109, 110, 111, 112] (by decide +kernel) (by decide +kernel)
set_option maxRecDepth 20000 in
theorem gX5_meet_X5_doMeet : GoodIn wsX5_meet (wsV RX5 196 RX5 yX5_doMeet wsX5_doMeet) := goodIn_app (goodIn_of _ (by decide +kernel)) ggX5_meet_X5_doMeet
set_option maxRecDepth 20000 in
theorem ggX5_meet_X5_goes : GoodIn wsX5_meet wsX5_goes := goodIn_r _ [76, 2, 77, 30, 78, 79, 67, 80, 29, 24, 25, 26, 27, 7, 28, 31, 32, 33, 34, 35, 36, 37, 38, 39, 40, 41, 42, 43, 44, 45, 46, 47, 48, 49, 50, 51, 52, 53, 54, 55, 56, 57, 58, 59, 60, 61, 62, 63, 64, 65, 66, 68, 69, 70, 71, 72, 90, 91, 92, 93, 94, 95, 96, 97, 98, 99, 100, 101, 102, 103, 104, 105, 106, 107, 108, 109, 110, 111, 112] (by decide +kernel) (by decide +kernel)
set_option maxRecDepth 20000 in
theorem gX5_meet_X5_goes : GoodIn wsX5_meet (wsV RX5 156 RX5 yX5_goes wsX5_goes) := goodIn_app (goodIn_of _ (by decide +kernel)) ggX5_meet_X5_goes
set_option maxRecDepth 20000 in
theorem ggX5_meet_X5_putBack : GoodIn wsX5_meet wsX5_putBack := goodIn_r _ [84, 3, 2, 17, 18, 7, 19, 90, 91, 92, 93, 94, 95, 96, 97, 98, 99, 100, 101, 102, 103, 104, 105, 106, 107, 108, 109, 110, 111, 112] (by decide +kernel) (by decide +kernel)
set_option maxRecDepth 20000 in
theorem gX5_meet_X5_putBack : GoodIn wsX5_meet (wsV RX5 180 RX5 yX5_putBack wsX5_putBack) := goodIn_app (goodIn_of _ (by decide +kernel)) ggX5_meet_X5_putBack
set_option maxRecDepth 20000 in
theorem ggX5_meet_X5_orNone : GoodIn wsX5_meet wsX5_orNone := goodIn_r _ [88, 89, 12, 13, 14, 7, 15, 16, 1, 90, 91, 92, 93, 94, 95, 96, 97, 98, 99, 100, 101, 102, 103, 104, 105, 106, 107, 108, 109, 110, 111, 112] (by decide +kernel) (by decide +kernel)
set_option maxRecDepth 20000 in
theorem gX5_meet_X5_orNone : GoodIn wsX5_meet (wsV RX5 189 RX5 yX5_orNone wsX5_orNone) := goodIn_app (goodIn_of _ (by decide +kernel)) ggX5_meet_X5_orNone
theorem dX5_meet_0 : decode cX5_meet 0 = .ok (.aload_n 0, 1) := by decide +kernel
theorem dX5_meet_1 : decode cX5_meet 1 = .ok (.iload_n 1, 1) := by decide +kernel
theorem dX5_meet_2 : decode cX5_meet 2 = .ok (.invokevirtual 143, 3) := by decide +kernel
theorem dX5_meet_5 : decode cX5_meet 5 = .ok (.ifCond .eq 16, 3) := by decide +kernel
theorem dX5_meet_8 : decode cX5_meet 8 = .ok (.aload_n 0, 1) := by decide +kernel
theorem dX5_meet_9 : decode cX5_meet 9 = .ok (.iload_n 2, 1) := by decide +kernel
theorem dX5_meet_10 : decode cX5_meet 10 = .ok (.invokevirtual 143, 3) := by decide +kernel
theorem dX5_meet_13 : decode cX5_meet 13 = .ok (.ifCond .eq 8, 3) := by decide +kernel
theorem dX5_meet_16 : decode cX5_meet 16 = .ok (.iload_n 1, 1) := by decide +kernel
theorem dX5_meet_17 : decode cX5_meet 17 = .ok (.iload_n 2, 1) := by decide +kernel
theorem dX5_meet_18 : decode cX5_meet 18 = .ok (.if_icmp .ne 10, 3) := by decide +kernel
theorem dX5_meet_21 : decode cX5_meet 21 = .ok (.aload_n 0, 1) := by decide +kernel
theorem dX5_meet_22 : decode cX5_meet 22 = .ok (.ldc 70, 2) := by decide +kernel
theorem dX5_meet_24 : decode cX5_meet 24 = .ok (.invokevirtual 76, 3) := by decide +kernel
theorem dX5_meet_27 : decode cX5_meet 27 = .ok (.ireturn, 1) := by decide +kernel
theorem dX5_meet_28 : decode cX5_meet 28 = .ok (.aload_n 0, 1) := by decide +kernel
theorem dX5_meet_29 : decode cX5_meet 29 = .ok (.getfield 9, 3) := by decide +kernel
theorem dX5_meet_32 : decode cX5_meet 32 = .ok (.aload_n 0, 1) := by decide +kernel
theorem dX5_meet_33 : decode cX5_meet 33 = .ok (.getfield 16, 3) := by decide +kernel
theorem dX5_meet_36 : decode cX5_meet 36 = .ok (.invokestatic 71, 3) := by decide +kernel
theorem dX5_meet_39 : decode cX5_meet 39 = .ok (.iconst 0, 1) := by decide +kernel
theorem dX5_meet_40 : decode cX5_meet 40 = .ok (.istore_n 3, 1) := by decide +kernel
theorem dX5_meet_41 : decode cX5_meet 41 = .ok (.iload_n 3, 1) := by decide +kernel
theorem dX5_meet_42 : decode cX5_meet 42 = .ok (.bipush 100, 2) := by decide +kernel
theorem dX5_meet_44 : decode cX5_meet 44 = .ok (.if_icmp .ge 22, 3) := by decide +kernel
theorem dX5_meet_47 : decode cX5_meet 47 = .ok (.aload_n 0, 1) := by decide +kernel
theorem dX5_meet_48 : decode cX5_meet 48 = .ok (.iload_n 1, 1) := by decide +kernel
theorem dX5_meet_49 : decode cX5_meet 49 = .ok (.iload_n 2, 1) := by decide +kernel
theorem dX5_meet_50 : decode cX5_meet 50 = .ok (.invokevirtual 196, 3) := by decide +kernel
theorem dX5_meet_53 : decode cX5_meet 53 = .ok (.ifCond .ne 13, 3) := by decide +kernel
theorem dX5_meet_56 : decode cX5_meet 56 = .ok (.aload_n 0, 1) := by decide +kernel
theorem dX5_meet_57 : decode cX5_meet 57 = .ok (.invokevirtual 156, 3) := by decide +kernel
theorem dX5_meet_60 : decode cX5_meet 60 = .ok (.iinc 3 1, 3) := by decide +kernel
theorem dX5_meet_63 : decode cX5_meet 63 = .ok (.goto (-22), 3) := by decide +kernel
theorem dX5_meet_66 : decode cX5_meet 66 = .ok (.aload_n 0, 1) := by decide +kernel
theorem dX5_meet_67 : decode cX5_meet 67 = .ok (.aload_n 0, 1) := by decide +kernel
theorem dX5_meet_68 : decode cX5_meet 68 = .ok (.aload_n 0, 1) := by decide +kernel
theorem dX5_meet_69 : decode cX5_meet 69 = .ok (.iload_n 1, 1) := by decide +kernel
theorem dX5_meet_70 : decode cX5_meet 70 = .ok (.iload_n 2, 1) := by decide +kernel
theorem dX5_meet_71 : decode cX5_meet 71 = .ok (.invokevirtual 196, 3) := by decide +kernel
theorem dX5_meet_74 : decode cX5_meet 74 = .ok (.ifCond .eq 7, 3) := by decide +kernel
theorem dX5_meet_77 : decode cX5_meet 77 = .ok (.iload_n 3, 1) := by decide +kernel
theorem dX5_meet_78 : decode cX5_meet 78 = .ok (.goto 4, 3) := by decide +kernel
theorem dX5_meet_81 : decode cX5_meet 81 = .ok (.iconst (-1), 1) := by decide +kernel
theorem dX5_meet_82 : decode cX5_meet 82 = .ok (.invokevirtual 180, 3) := by decide +kernel
theorem dX5_meet_85 : decode cX5_meet 85 = .ok (.invokevirtual 189, 3) := by decide +kernel
theorem dX5_meet_88 : decode cX5_meet 88 = .ok (.ireturn, 1) := by decide +kernel
set_option maxRecDepth 20000 in
theorem ggX5_crowd_X5_isPlace : GoodIn wsX5_crowd wsX5_isPlace := goodIn_r _ [14, 15, 16, 13, 17] (by decide +kernel) (by decide +kernel)
set_option maxRecDepth 20000 in
theorem gX5_crowd_X5_isPlace : GoodIn wsX5_crowd (va_wsS RX5 88 yX5_isPlace wsX5_isPlace) := goodIn_app (goodIn_of _ (by decide +kernel)) ggX5_crowd_X5_isPlace
set_option maxRecDepth 20000 in
theorem ggX5_crowd_X5_within : GoodIn wsX5_crowd wsX5_within := goodIn_r _ [17] (by decide +kernel) (by decide +kernel)
set_option maxRecDepth 20000 in
theorem gX5_crowd_X5_within : GoodIn wsX5_crowd (va_wsS RX5 80 yX5_within wsX5_within) := goodIn_app (goodIn_of _ (by decide +kernel)) ggX5_crowd_X5_within
set_option maxRecDepth 20000 in
theorem ggX5_crowd_X5_finding : GoodIn wsX5_crowd wsX5_finding := goodIn_r _ [21, 22, 1, 83, 84, 85, 86, 87, 88, 89, 90, 91, 92, 93, 94, 95, 96, 97, 98, 99, 100, 101, 102, 103, 104, 105] (by decide +kernel) (by decide +kernel)
set_option maxRecDepth 20000 in
theorem gX5_crowd_X5_finding : GoodIn wsX5_crowd (wsV RX5 76 RX5 yX5_finding wsX5_finding) := goodIn_app (goodIn_of _ (by decide +kernel)) ggX5_crowd_X5_finding
set_option maxRecDepth 20000 in
theorem ggX5_crowd_X5_copyRow : GoodIn wsX5_crowd wsX5_copyRow := goodIn_r _ [25] (by decide +kernel) (by decide +kernel)
set_option maxRecDepth 20000 in
theorem gX5_crowd_X5_copyRow : GoodIn wsX5_crowd (va_wsS RX5 71 yX5_copyRow wsX5_copyRow) := goodIn_app (goodIn_of _ (by decide +kernel)) ggX5_crowd_X5_copyRow
set_option maxRecDepth 20000 in
theorem ggX5_crowd_X5_looksAt : GoodIn wsX5_crowd wsX5_looksAt := goodIn_r _ [29, 2, 30, 31, 32, 33, 34, 35, 13, 36, 37, 38, 39, 40, 41, 42, 43, 44, 45, 46, 47, 48, 49, 50, 51, 52, 53, 54, 55, 56, 57, 58, 59, 60, 61, 62, 63, 64, 65, 66, 67, 68, 6, 69, 70, 71, 72, 73, 83, 84, 85, 86, 87, 88, 89, 90, 91, 92, 93, 94, 95, 96, 97, 98, 99, 100, 101, 102, 103, 104, 105] (by decide +kernel) (by decide +kernel)
set_option maxRecDepth 20000 in
theorem gX5_crowd_X5_looksAt : GoodIn wsX5_crowd (wsV RX5 140 RX5 yX5_looksAt wsX5_looksAt) := goodIn_app (goodIn_of _ (by decide +kernel)) ggX5_crowd_X5_looksAt
set_option maxRecDepth 20000 in
theorem ggX5_crowd_X5_comers : GoodIn wsX5_crowd wsX5_comers := goodIn_r _ [73, 2, 30, 83, 84, 85, 86, 87, 88, 89, 90, 91, 92, 93, 94, 95, 96, 97, 98, 99, 100, 101, 102, 103, 104, 105] (by decide +kernel) (by decide +kernel)
set_option maxRecDepth 20000 in
theorem gX5_crowd_X5_comers : GoodIn wsX5_crowd (wsV RX5 137 RX5 yX5_comers wsX5_comers) := goodIn_app (goodIn_of _ (by decide +kernel)) ggX5_crowd_X5_comers
set_option maxRecDepth 20000 in
theorem ggX5_crowd_X5_bits : GoodIn wsX5_crowd wsX5_bits := goodIn_r _ [58] (by decide +kernel) (by decide +kernel)
set_option maxRecDepth 20000 in
theorem gX5_crowd_X5_bits : GoodIn wsX5_crowd (va_wsS RX5 112 yX5_bits wsX5_bits) := goodIn_app (goodIn_of _ (by decide +kernel)) ggX5_crowd_X5_bits
set_option maxRecDepth 20000 in
theorem ggX5_crowd_X5_goes : GoodIn wsX5_crowd wsX5_goes := goodIn_r _ [77, 2, 78, 32, 4, 5, 6, 7, 31, 30, 26, 27, 28, 13, 29, 33, 34, 35, 36, 37, 38, 39, 40, 41, 42, 43, 44, 45, 46, 47, 48, 49, 50, 51, 52, 53, 54, 55, 56, 57, 58, 59, 60, 61, 62, 63, 64, 65, 66, 67, 68, 69, 70, 71, 72, 73, 83, 84, 85, 86, 87, 88, 89, 90, 91, 92, 93, 94, 95, 96, 97, 98, 99, 100, 101, 102, 103, 104, 105] (by decide +kernel) (by decide +kernel)
set_option maxRecDepth 20000 in
theorem gX5_crowd_X5_goes : GoodIn wsX5_crowd (wsV RX5 156 RX5 yX5_goes wsX5_goes) := goodIn_app (goodIn_of _ (by decide +kernel)) ggX5_crowd_X5_goes
set_option maxRecDepth 20000 in
theorem ggX5_crowd_X5_putBack : GoodIn wsX5_crowd wsX5_putBack := goodIn_r _ [82, 3, 2, 23, 24, 13, 25, 83, 84, 85, 86, 87, 88, 89, 90, 91, 92, 93, 94, 95, 96, 97, 98, 99, 100, 101, 102, 103, 104, 105] (by decide +kernel) (by decide +kernel)
set_option maxRecDepth 20000 in
theorem gX5_crowd_X5_putBack : GoodIn wsX5_crowd (wsV RX5 180 RX5 yX5_putBack wsX5_putBack) := goodIn_app (goodIn_of _ (by decide +kernel)) ggX5_crowd_X5_putBack
theorem dX5_crowd_0 : decode cX5_crowd 0 = .ok (.iload_n 1, 1) := by decide +kernel
theorem dX5_crowd_1 : decode cX5_crowd 1 = .ok (.invokestatic 88, 3) := by decide +kernel
theorem dX5_crowd_4 : decode cX5_crowd 4 = .ok (.ifCond .eq 22, 3) := by decide +kernel
theorem dX5_crowd_7 : decode cX5_crowd 7 = .ok (.iload_n 2, 1) := by decide +kernel
theorem dX5_crowd_8 : decode cX5_crowd 8 = .ok (.iconst 1, 1) := by decide +kernel
theorem dX5_crowd_9 : decode cX5_crowd 9 = .ok (.bipush 100, 2) := by decide +kernel
theorem dX5_crowd_11 : decode cX5_crowd 11 = .ok (.invokestatic 80, 3) := by decide +kernel
theorem dX5_crowd_14 : decode cX5_crowd 14 = .ok (.ifCond .eq 12, 3) := by decide +kernel
theorem dX5_crowd_17 : decode cX5_crowd 17 = .ok (.iload_n 3, 1) := by decide +kernel
theorem dX5_crowd_18 : decode cX5_crowd 18 = .ok (.iconst 0, 1) := by decide +kernel
theorem dX5_crowd_19 : decode cX5_crowd 19 = .ok (.iconst 1, 1) := by decide +kernel
theorem dX5_crowd_20 : decode cX5_crowd 20 = .ok (.invokestatic 80, 3) := by decide +kernel
theorem dX5_crowd_23 : decode cX5_crowd 23 = .ok (.ifCond .ne 10, 3) := by decide +kernel
theorem dX5_crowd_26 : decode cX5_crowd 26 = .ok (.aload_n 0, 1) := by decide +kernel
theorem dX5_crowd_27 : decode cX5_crowd 27 = .ok (.ldc 70, 2) := by decide +kernel
theorem dX5_crowd_29 : decode cX5_crowd 29 = .ok (.invokevirtual 76, 3) := by decide +kernel
theorem dX5_crowd_32 : decode cX5_crowd 32 = .ok (.ireturn, 1) := by decide +kernel
theorem dX5_crowd_33 : decode cX5_crowd 33 = .ok (.aload_n 0, 1) := by decide +kernel
theorem dX5_crowd_34 : decode cX5_crowd 34 = .ok (.getfield 9, 3) := by decide +kernel
theorem dX5_crowd_37 : decode cX5_crowd 37 = .ok (.aload_n 0, 1) := by decide +kernel
theorem dX5_crowd_38 : decode cX5_crowd 38 = .ok (.getfield 16, 3) := by decide +kernel
theorem dX5_crowd_41 : decode cX5_crowd 41 = .ok (.invokestatic 71, 3) := by decide +kernel
theorem dX5_crowd_44 : decode cX5_crowd 44 = .ok (.bipush 8, 2) := by decide +kernel
theorem dX5_crowd_46 : decode cX5_crowd 46 = .ok (.istore 4, 2) := by decide +kernel
theorem dX5_crowd_48 : decode cX5_crowd 48 = .ok (.iconst 0, 1) := by decide +kernel
theorem dX5_crowd_49 : decode cX5_crowd 49 = .ok (.istore 5, 2) := by decide +kernel
theorem dX5_crowd_51 : decode cX5_crowd 51 = .ok (.iconst 0, 1) := by decide +kernel
theorem dX5_crowd_52 : decode cX5_crowd 52 = .ok (.istore 6, 2) := by decide +kernel
theorem dX5_crowd_54 : decode cX5_crowd 54 = .ok (.iload 6, 2) := by decide +kernel
theorem dX5_crowd_56 : decode cX5_crowd 56 = .ok (.iload_n 2, 1) := by decide +kernel
theorem dX5_crowd_57 : decode cX5_crowd 57 = .ok (.if_icmp .ge 45, 3) := by decide +kernel
theorem dX5_crowd_60 : decode cX5_crowd 60 = .ok (.aload_n 0, 1) := by decide +kernel
theorem dX5_crowd_61 : decode cX5_crowd 61 = .ok (.invokevirtual 140, 3) := by decide +kernel
theorem dX5_crowd_64 : decode cX5_crowd 64 = .ok (.aload_n 0, 1) := by decide +kernel
theorem dX5_crowd_65 : decode cX5_crowd 65 = .ok (.iload_n 1, 1) := by decide +kernel
theorem dX5_crowd_66 : decode cX5_crowd 66 = .ok (.invokevirtual 137, 3) := by decide +kernel
theorem dX5_crowd_69 : decode cX5_crowd 69 = .ok (.invokestatic 112, 3) := by decide +kernel
theorem dX5_crowd_72 : decode cX5_crowd 72 = .ok (.istore 7, 2) := by decide +kernel
theorem dX5_crowd_74 : decode cX5_crowd 74 = .ok (.iload 4, 2) := by decide +kernel
theorem dX5_crowd_76 : decode cX5_crowd 76 = .ok (.iload 7, 2) := by decide +kernel
theorem dX5_crowd_78 : decode cX5_crowd 78 = .ok (.invokestatic 153, 3) := by decide +kernel
theorem dX5_crowd_81 : decode cX5_crowd 81 = .ok (.istore 4, 2) := by decide +kernel
theorem dX5_crowd_83 : decode cX5_crowd 83 = .ok (.iload 5, 2) := by decide +kernel
theorem dX5_crowd_85 : decode cX5_crowd 85 = .ok (.iload 7, 2) := by decide +kernel
theorem dX5_crowd_87 : decode cX5_crowd 87 = .ok (.invokestatic 199, 3) := by decide +kernel
theorem dX5_crowd_90 : decode cX5_crowd 90 = .ok (.istore 5, 2) := by decide +kernel
theorem dX5_crowd_92 : decode cX5_crowd 92 = .ok (.aload_n 0, 1) := by decide +kernel
theorem dX5_crowd_93 : decode cX5_crowd 93 = .ok (.invokevirtual 156, 3) := by decide +kernel
theorem dX5_crowd_96 : decode cX5_crowd 96 = .ok (.iinc 6 1, 3) := by decide +kernel
theorem dX5_crowd_99 : decode cX5_crowd 99 = .ok (.goto (-45), 3) := by decide +kernel
theorem dX5_crowd_102 : decode cX5_crowd 102 = .ok (.aload_n 0, 1) := by decide +kernel
theorem dX5_crowd_103 : decode cX5_crowd 103 = .ok (.iload_n 3, 1) := by decide +kernel
theorem dX5_crowd_104 : decode cX5_crowd 104 = .ok (.ifCond .ne 8, 3) := by decide +kernel
theorem dX5_crowd_107 : decode cX5_crowd 107 = .ok (.iload 4, 2) := by decide +kernel
theorem dX5_crowd_109 : decode cX5_crowd 109 = .ok (.goto 5, 3) := by decide +kernel
theorem dX5_crowd_112 : decode cX5_crowd 112 = .ok (.iload 5, 2) := by decide +kernel
theorem dX5_crowd_114 : decode cX5_crowd 114 = .ok (.invokevirtual 180, 3) := by decide +kernel
theorem dX5_crowd_117 : decode cX5_crowd 117 = .ok (.ireturn, 1) := by decide +kernel
set_option maxRecDepth 20000 in
theorem ggX5_bestFor_X5_personIs : GoodIn wsX5_bestFor wsX5_personIs := goodIn_r _ [10, 1, 11, 12, 9, 13, 79, 80, 81, 82, 83, 84, 85, 86, 87, 88, 89, 90, 91, 92, 93, 94, 95, 96, 97, 98, 99, 100, 101] (by decide +kernel) (by decide +kernel)
set_option maxRecDepth 20000 in
theorem gX5_bestFor_X5_personIs : GoodIn wsX5_bestFor (wsV RX5 106 RX5 yX5_personIs wsX5_personIs) := goodIn_app (goodIn_of _ (by decide +kernel)) ggX5_bestFor_X5_personIs
set_option maxRecDepth 20000 in
theorem ggX5_bestFor_X5_at : GoodIn wsX5_bestFor wsX5_at := goodIn_r _ [13] (by decide +kernel) (by decide +kernel)
set_option maxRecDepth 20000 in
theorem gX5_bestFor_X5_at : GoodIn wsX5_bestFor (va_wsS RX5 84 yX5_at wsX5_at) := goodIn_app (goodIn_of _ (by decide +kernel)) ggX5_bestFor_X5_at
set_option maxRecDepth 20000 in
theorem ggX5_bestFor_X5_behind : GoodIn wsX5_bestFor wsX5_behind := goodIn_r _ [17, 1, 18, 19, 20, 9, 21, 22, 23, 24, 25, 26, 27, 28, 29, 30, 31, 32, 33, 4, 34, 35, 36, 37, 38, 39, 40, 41, 42, 43, 44, 6, 7, 8, 10, 11, 12, 13, 45, 46, 47, 48, 49, 50, 51, 52, 53, 54, 55, 56, 57, 58, 59, 60, 61, 62, 63, 64, 65, 66, 67, 68, 69, 70, 71, 72, 73, 74, 75, 76, 77, 78, 79, 80, 81, 82, 83, 84, 85, 86, 87, 88, 89, 90, 91, 92, 93, 94, 95, 96, 97, 98, 99, 100, 101] (by decide +kernel) (by decide +kernel)
set_option maxRecDepth 20000 in
theorem gX5_bestFor_X5_behind : GoodIn wsX5_bestFor (wsV RX5 186 RX5 yX5_behind wsX5_behind) := goodIn_app (goodIn_of _ (by decide +kernel)) ggX5_bestFor_X5_behind
theorem dX5_bestFor_0 : decode cX5_bestFor 0 = .ok (.aload_n 0, 1) := by decide +kernel
theorem dX5_bestFor_1 : decode cX5_bestFor 1 = .ok (.iload_n 1, 1) := by decide +kernel
theorem dX5_bestFor_2 : decode cX5_bestFor 2 = .ok (.iload_n 2, 1) := by decide +kernel
theorem dX5_bestFor_3 : decode cX5_bestFor 3 = .ok (.invokevirtual 106, 3) := by decide +kernel
theorem dX5_bestFor_6 : decode cX5_bestFor 6 = .ok (.istore 6, 2) := by decide +kernel
theorem dX5_bestFor_8 : decode cX5_bestFor 8 = .ok (.iload_n 3, 1) := by decide +kernel
theorem dX5_bestFor_9 : decode cX5_bestFor 9 = .ok (.istore 7, 2) := by decide +kernel
theorem dX5_bestFor_11 : decode cX5_bestFor 11 = .ok (.iconst (-1), 1) := by decide +kernel
theorem dX5_bestFor_12 : decode cX5_bestFor 12 = .ok (.istore 8, 2) := by decide +kernel
theorem dX5_bestFor_14 : decode cX5_bestFor 14 = .ok (.iload_n 3, 1) := by decide +kernel
theorem dX5_bestFor_15 : decode cX5_bestFor 15 = .ok (.istore 9, 2) := by decide +kernel
theorem dX5_bestFor_17 : decode cX5_bestFor 17 = .ok (.iload 9, 2) := by decide +kernel
theorem dX5_bestFor_19 : decode cX5_bestFor 19 = .ok (.iload 4, 2) := by decide +kernel
theorem dX5_bestFor_21 : decode cX5_bestFor 21 = .ok (.if_icmp .gt 74, 3) := by decide +kernel
theorem dX5_bestFor_24 : decode cX5_bestFor 24 = .ok (.aload_n 0, 1) := by decide +kernel
theorem dX5_bestFor_25 : decode cX5_bestFor 25 = .ok (.getfield 9, 3) := by decide +kernel
theorem dX5_bestFor_28 : decode cX5_bestFor 28 = .ok (.iload_n 1, 1) := by decide +kernel
theorem dX5_bestFor_29 : decode cX5_bestFor 29 = .ok (.iload_n 2, 1) := by decide +kernel
theorem dX5_bestFor_30 : decode cX5_bestFor 30 = .ok (.invokestatic 84, 3) := by decide +kernel
theorem dX5_bestFor_33 : decode cX5_bestFor 33 = .ok (.iload 9, 2) := by decide +kernel
theorem dX5_bestFor_35 : decode cX5_bestFor 35 = .ok (.iastore, 1) := by decide +kernel
theorem dX5_bestFor_36 : decode cX5_bestFor 36 = .ok (.iload_n 2, 1) := by decide +kernel
theorem dX5_bestFor_37 : decode cX5_bestFor 37 = .ok (.iconst 3, 1) := by decide +kernel
theorem dX5_bestFor_38 : decode cX5_bestFor 38 = .ok (.if_icmp .ne 13, 3) := by decide +kernel
theorem dX5_bestFor_41 : decode cX5_bestFor 41 = .ok (.iload 9, 2) := by decide +kernel
theorem dX5_bestFor_43 : decode cX5_bestFor 43 = .ok (.iload_n 1, 1) := by decide +kernel
theorem dX5_bestFor_44 : decode cX5_bestFor 44 = .ok (.if_icmp .ne 7, 3) := by decide +kernel
theorem dX5_bestFor_47 : decode cX5_bestFor 47 = .ok (.iconst (-1), 1) := by decide +kernel
theorem dX5_bestFor_48 : decode cX5_bestFor 48 = .ok (.goto 14, 3) := by decide +kernel
theorem dX5_bestFor_51 : decode cX5_bestFor 51 = .ok (.aload_n 0, 1) := by decide +kernel
theorem dX5_bestFor_52 : decode cX5_bestFor 52 = .ok (.iload_n 1, 1) := by decide +kernel
theorem dX5_bestFor_53 : decode cX5_bestFor 53 = .ok (.iconst 4, 1) := by decide +kernel
theorem dX5_bestFor_54 : decode cX5_bestFor 54 = .ok (.invokestatic 84, 3) := by decide +kernel
theorem dX5_bestFor_57 : decode cX5_bestFor 57 = .ok (.iload 5, 2) := by decide +kernel
theorem dX5_bestFor_59 : decode cX5_bestFor 59 = .ok (.invokevirtual 186, 3) := by decide +kernel
theorem dX5_bestFor_62 : decode cX5_bestFor 62 = .ok (.istore 10, 2) := by decide +kernel
theorem dX5_bestFor_64 : decode cX5_bestFor 64 = .ok (.iload 10, 2) := by decide +kernel
theorem dX5_bestFor_66 : decode cX5_bestFor 66 = .ok (.iload 8, 2) := by decide +kernel
theorem dX5_bestFor_68 : decode cX5_bestFor 68 = .ok (.if_icmp .le 8, 3) := by decide +kernel
theorem dX5_bestFor_71 : decode cX5_bestFor 71 = .ok (.iload 9, 2) := by decide +kernel
theorem dX5_bestFor_73 : decode cX5_bestFor 73 = .ok (.goto 5, 3) := by decide +kernel
theorem dX5_bestFor_76 : decode cX5_bestFor 76 = .ok (.iload 7, 2) := by decide +kernel
theorem dX5_bestFor_78 : decode cX5_bestFor 78 = .ok (.istore 7, 2) := by decide +kernel
theorem dX5_bestFor_80 : decode cX5_bestFor 80 = .ok (.iload 8, 2) := by decide +kernel
theorem dX5_bestFor_82 : decode cX5_bestFor 82 = .ok (.iload 10, 2) := by decide +kernel
theorem dX5_bestFor_84 : decode cX5_bestFor 84 = .ok (.invokestatic 199, 3) := by decide +kernel
theorem dX5_bestFor_87 : decode cX5_bestFor 87 = .ok (.istore 8, 2) := by decide +kernel
theorem dX5_bestFor_89 : decode cX5_bestFor 89 = .ok (.iinc 9 1, 3) := by decide +kernel
theorem dX5_bestFor_92 : decode cX5_bestFor 92 = .ok (.goto (-75), 3) := by decide +kernel
theorem dX5_bestFor_95 : decode cX5_bestFor 95 = .ok (.aload_n 0, 1) := by decide +kernel
theorem dX5_bestFor_96 : decode cX5_bestFor 96 = .ok (.getfield 9, 3) := by decide +kernel
theorem dX5_bestFor_99 : decode cX5_bestFor 99 = .ok (.iload_n 1, 1) := by decide +kernel
theorem dX5_bestFor_100 : decode cX5_bestFor 100 = .ok (.iload_n 2, 1) := by decide +kernel
theorem dX5_bestFor_101 : decode cX5_bestFor 101 = .ok (.invokestatic 84, 3) := by decide +kernel
theorem dX5_bestFor_104 : decode cX5_bestFor 104 = .ok (.iload 6, 2) := by decide +kernel
theorem dX5_bestFor_106 : decode cX5_bestFor 106 = .ok (.iastore, 1) := by decide +kernel
theorem dX5_bestFor_107 : decode cX5_bestFor 107 = .ok (.iload 7, 2) := by decide +kernel
theorem dX5_bestFor_109 : decode cX5_bestFor 109 = .ok (.ireturn, 1) := by decide +kernel
set_option maxRecDepth 20000 in
theorem ggX5_isTried_X5_isPerson : GoodIn wsX5_isTried wsX5_isPerson := goodIn_r _ [5, 6, 7, 8, 4, 9, 10, 11, 12, 13, 14, 15, 16, 17, 18, 19, 20, 21, 22, 23, 24, 25, 26, 27, 28, 29, 30, 31, 32] (by decide +kernel) (by decide +kernel)
set_option maxRecDepth 20000 in
theorem gX5_isTried_X5_isPerson : GoodIn wsX5_isTried (wsV RX5 143 RX5 yX5_isPerson wsX5_isPerson) := goodIn_app (goodIn_of _ (by decide +kernel)) ggX5_isTried_X5_isPerson
set_option maxRecDepth 20000 in
theorem ggX5_isTried_X5_within : GoodIn wsX5_isTried wsX5_within := goodIn_r _ [9] (by decide +kernel) (by decide +kernel)
set_option maxRecDepth 20000 in
theorem gX5_isTried_X5_within : GoodIn wsX5_isTried (va_wsS RX5 80 yX5_within wsX5_within) := goodIn_app (goodIn_of _ (by decide +kernel)) ggX5_isTried_X5_within
theorem dX5_isTried_0 : decode cX5_isTried 0 = .ok (.aload_n 0, 1) := by decide +kernel
theorem dX5_isTried_1 : decode cX5_isTried 1 = .ok (.iload_n 1, 1) := by decide +kernel
theorem dX5_isTried_2 : decode cX5_isTried 2 = .ok (.invokevirtual 143, 3) := by decide +kernel
theorem dX5_isTried_5 : decode cX5_isTried 5 = .ok (.ifCond .eq 17, 3) := by decide +kernel
theorem dX5_isTried_8 : decode cX5_isTried 8 = .ok (.iload_n 2, 1) := by decide +kernel
theorem dX5_isTried_9 : decode cX5_isTried 9 = .ok (.iconst 0, 1) := by decide +kernel
theorem dX5_isTried_10 : decode cX5_isTried 10 = .ok (.bipush 60, 2) := by decide +kernel
theorem dX5_isTried_12 : decode cX5_isTried 12 = .ok (.invokestatic 80, 3) := by decide +kernel
theorem dX5_isTried_15 : decode cX5_isTried 15 = .ok (.ifCond .eq 7, 3) := by decide +kernel
theorem dX5_isTried_18 : decode cX5_isTried 18 = .ok (.iconst 1, 1) := by decide +kernel
theorem dX5_isTried_19 : decode cX5_isTried 19 = .ok (.goto 4, 3) := by decide +kernel
theorem dX5_isTried_22 : decode cX5_isTried 22 = .ok (.iconst 0, 1) := by decide +kernel
theorem dX5_isTried_23 : decode cX5_isTried 23 = .ok (.ireturn, 1) := by decide +kernel
set_option maxRecDepth 20000 in
theorem ggX5_planFor_X5_isTried : GoodIn wsX5_planFor wsX5_isTried := goodIn_r _ [6, 7, 8, 9, 5, 10, 11, 12, 13, 14, 100, 101, 102, 103, 104, 105, 106, 107, 108, 109, 110, 111, 112, 113, 114, 115, 116, 117, 118, 119, 120, 121, 122] (by decide +kernel) (by decide +kernel)
set_option maxRecDepth 20000 in
theorem gX5_planFor_X5_isTried : GoodIn wsX5_planFor (wsV RX5 202 RX5 yX5_isTried wsX5_isTried) := goodIn_app (goodIn_of _ (by decide +kernel)) ggX5_planFor_X5_isTried
set_option maxRecDepth 20000 in
theorem ggX5_planFor_X5_bestFor : GoodIn wsX5_planFor wsX5_bestFor := goodIn_r _ [18, 11, 19, 20, 21, 22, 23, 24, 25, 5, 26, 27, 28, 29, 30, 31, 32, 33, 34, 35, 36, 37, 38, 39, 40, 41, 42, 43, 44, 45, 46, 47, 48, 49, 50, 51, 52, 53, 54, 55, 56, 57, 58, 59, 60, 61, 62, 63, 64, 65, 66, 67, 68, 69, 70, 71, 72, 73, 74, 75, 76, 77, 78, 79, 80, 81, 82, 83, 84, 85, 86, 87, 88, 89, 90, 91, 92, 93, 94, 100, 101, 102, 103, 104, 105, 106, 107, 108, 109, 110, 111, 112, 113, 114, 115, 116, 117, 118, 119, 120, 121, 122] (by decide +kernel) (by decide +kernel)
set_option maxRecDepth 20000 in
theorem gX5_planFor_X5_bestFor : GoodIn wsX5_planFor (wsV RX5 205 RX5 yX5_bestFor wsX5_bestFor) := goodIn_app (goodIn_of _ (by decide +kernel)) ggX5_planFor_X5_bestFor
set_option maxRecDepth 20000 in
theorem ggX5_planFor_X5_finding : GoodIn wsX5_planFor wsX5_finding := goodIn_r _ [98, 99, 1, 100, 101, 102, 103, 104, 105, 106, 107, 108, 109, 110, 111, 112, 113, 114, 115, 116, 117, 118, 119, 120, 121, 122] (by decide +kernel) (by decide +kernel)
set_option maxRecDepth 20000 in
theorem gX5_planFor_X5_finding : GoodIn wsX5_planFor (wsV RX5 76 RX5 yX5_finding wsX5_finding) := goodIn_app (goodIn_of _ (by decide +kernel)) ggX5_planFor_X5_finding
theorem dX5_planFor_0 : decode cX5_planFor 0 = .ok (.aload_n 0, 1) := by decide +kernel
theorem dX5_planFor_1 : decode cX5_planFor 1 = .ok (.iload_n 1, 1) := by decide +kernel
theorem dX5_planFor_2 : decode cX5_planFor 2 = .ok (.iload_n 2, 1) := by decide +kernel
theorem dX5_planFor_3 : decode cX5_planFor 3 = .ok (.invokevirtual 202, 3) := by decide +kernel
theorem dX5_planFor_6 : decode cX5_planFor 6 = .ok (.ifCond .eq 16, 3) := by decide +kernel
theorem dX5_planFor_9 : decode cX5_planFor 9 = .ok (.aload_n 0, 1) := by decide +kernel
theorem dX5_planFor_10 : decode cX5_planFor 10 = .ok (.iload_n 1, 1) := by decide +kernel
theorem dX5_planFor_11 : decode cX5_planFor 11 = .ok (.iconst 1, 1) := by decide +kernel
theorem dX5_planFor_12 : decode cX5_planFor 12 = .ok (.iconst 0, 1) := by decide +kernel
theorem dX5_planFor_13 : decode cX5_planFor 13 = .ok (.bipush 7, 2) := by decide +kernel
theorem dX5_planFor_15 : decode cX5_planFor 15 = .ok (.iload_n 2, 1) := by decide +kernel
theorem dX5_planFor_16 : decode cX5_planFor 16 = .ok (.invokevirtual 205, 3) := by decide +kernel
theorem dX5_planFor_19 : decode cX5_planFor 19 = .ok (.goto 9, 3) := by decide +kernel
theorem dX5_planFor_22 : decode cX5_planFor 22 = .ok (.aload_n 0, 1) := by decide +kernel
theorem dX5_planFor_23 : decode cX5_planFor 23 = .ok (.ldc 70, 2) := by decide +kernel
theorem dX5_planFor_25 : decode cX5_planFor 25 = .ok (.invokevirtual 76, 3) := by decide +kernel
theorem dX5_planFor_28 : decode cX5_planFor 28 = .ok (.ireturn, 1) := by decide +kernel
set_option maxRecDepth 20000 in
theorem ggX5_kindFor_X5_isTried : GoodIn wsX5_kindFor wsX5_isTried := goodIn_r _ [6, 7, 8, 9, 5, 10, 11, 12, 13, 14, 100, 101, 102, 103, 104, 105, 106, 107, 108, 109, 110, 111, 112, 113, 114, 115, 116, 117, 118, 119, 120, 121, 122] (by decide +kernel) (by decide +kernel)
set_option maxRecDepth 20000 in
theorem gX5_kindFor_X5_isTried : GoodIn wsX5_kindFor (wsV RX5 202 RX5 yX5_isTried wsX5_isTried) := goodIn_app (goodIn_of _ (by decide +kernel)) ggX5_kindFor_X5_isTried
set_option maxRecDepth 20000 in
theorem ggX5_kindFor_X5_bestFor : GoodIn wsX5_kindFor wsX5_bestFor := goodIn_r _ [18, 11, 19, 20, 21, 22, 23, 24, 25, 5, 26, 27, 28, 29, 30, 31, 32, 33, 34, 35, 36, 37, 38, 39, 40, 41, 42, 43, 44, 45, 46, 47, 48, 49, 50, 51, 52, 53, 54, 55, 56, 57, 58, 59, 60, 61, 62, 63, 64, 65, 66, 67, 68, 69, 70, 71, 72, 73, 74, 75, 76, 77, 78, 79, 80, 81, 82, 83, 84, 85, 86, 87, 88, 89, 90, 91, 92, 93, 94, 100, 101, 102, 103, 104, 105, 106, 107, 108, 109, 110, 111, 112, 113, 114, 115, 116, 117, 118, 119, 120, 121, 122] (by decide +kernel) (by decide +kernel)
set_option maxRecDepth 20000 in
theorem gX5_kindFor_X5_bestFor : GoodIn wsX5_kindFor (wsV RX5 205 RX5 yX5_bestFor wsX5_bestFor) := goodIn_app (goodIn_of _ (by decide +kernel)) ggX5_kindFor_X5_bestFor
set_option maxRecDepth 20000 in
theorem ggX5_kindFor_X5_finding : GoodIn wsX5_kindFor wsX5_finding := goodIn_r _ [98, 99, 1, 100, 101, 102, 103, 104, 105, 106, 107, 108, 109, 110, 111, 112, 113, 114, 115, 116, 117, 118, 119, 120, 121, 122] (by decide +kernel) (by decide +kernel)
set_option maxRecDepth 20000 in
theorem gX5_kindFor_X5_finding : GoodIn wsX5_kindFor (wsV RX5 76 RX5 yX5_finding wsX5_finding) := goodIn_app (goodIn_of _ (by decide +kernel)) ggX5_kindFor_X5_finding
theorem dX5_kindFor_0 : decode cX5_kindFor 0 = .ok (.aload_n 0, 1) := by decide +kernel
theorem dX5_kindFor_1 : decode cX5_kindFor 1 = .ok (.iload_n 1, 1) := by decide +kernel
theorem dX5_kindFor_2 : decode cX5_kindFor 2 = .ok (.iload_n 2, 1) := by decide +kernel
theorem dX5_kindFor_3 : decode cX5_kindFor 3 = .ok (.invokevirtual 202, 3) := by decide +kernel
theorem dX5_kindFor_6 : decode cX5_kindFor 6 = .ok (.ifCond .eq 16, 3) := by decide +kernel
theorem dX5_kindFor_9 : decode cX5_kindFor 9 = .ok (.aload_n 0, 1) := by decide +kernel
theorem dX5_kindFor_10 : decode cX5_kindFor 10 = .ok (.iload_n 1, 1) := by decide +kernel
theorem dX5_kindFor_11 : decode cX5_kindFor 11 = .ok (.iconst 0, 1) := by decide +kernel
theorem dX5_kindFor_12 : decode cX5_kindFor 12 = .ok (.iconst 0, 1) := by decide +kernel
theorem dX5_kindFor_13 : decode cX5_kindFor 13 = .ok (.bipush 6, 2) := by decide +kernel
theorem dX5_kindFor_15 : decode cX5_kindFor 15 = .ok (.iload_n 2, 1) := by decide +kernel
theorem dX5_kindFor_16 : decode cX5_kindFor 16 = .ok (.invokevirtual 205, 3) := by decide +kernel
theorem dX5_kindFor_19 : decode cX5_kindFor 19 = .ok (.goto 9, 3) := by decide +kernel
theorem dX5_kindFor_22 : decode cX5_kindFor 22 = .ok (.aload_n 0, 1) := by decide +kernel
theorem dX5_kindFor_23 : decode cX5_kindFor 23 = .ok (.ldc 70, 2) := by decide +kernel
theorem dX5_kindFor_25 : decode cX5_kindFor 25 = .ok (.invokevirtual 76, 3) := by decide +kernel
theorem dX5_kindFor_28 : decode cX5_kindFor 28 = .ok (.ireturn, 1) := by decide +kernel
set_option maxRecDepth 20000 in
theorem ggX5_looksFor_X5_isTried : GoodIn wsX5_looksFor wsX5_isTried := goodIn_r _ [6, 7, 8, 9, 5, 10, 11, 12, 13, 14, 100, 101, 102, 103, 104, 105, 106, 107, 108, 109, 110, 111, 112, 113, 114, 115, 116, 117, 118, 119, 120, 121, 122] (by decide +kernel) (by decide +kernel)
set_option maxRecDepth 20000 in
theorem gX5_looksFor_X5_isTried : GoodIn wsX5_looksFor (wsV RX5 202 RX5 yX5_isTried wsX5_isTried) := goodIn_app (goodIn_of _ (by decide +kernel)) ggX5_looksFor_X5_isTried
set_option maxRecDepth 20000 in
theorem ggX5_looksFor_X5_bestFor : GoodIn wsX5_looksFor wsX5_bestFor := goodIn_r _ [18, 11, 19, 20, 21, 22, 23, 24, 25, 5, 26, 27, 28, 29, 30, 31, 32, 33, 34, 35, 36, 37, 38, 39, 40, 41, 42, 43, 44, 45, 46, 47, 48, 49, 50, 51, 52, 53, 54, 55, 56, 57, 58, 59, 60, 61, 62, 63, 64, 65, 66, 67, 68, 69, 70, 71, 72, 73, 74, 75, 76, 77, 78, 79, 80, 81, 82, 83, 84, 85, 86, 87, 88, 89, 90, 91, 92, 93, 94, 100, 101, 102, 103, 104, 105, 106, 107, 108, 109, 110, 111, 112, 113, 114, 115, 116, 117, 118, 119, 120, 121, 122] (by decide +kernel) (by decide +kernel)
set_option maxRecDepth 20000 in
theorem gX5_looksFor_X5_bestFor : GoodIn wsX5_looksFor (wsV RX5 205 RX5 yX5_bestFor wsX5_bestFor) := goodIn_app (goodIn_of _ (by decide +kernel)) ggX5_looksFor_X5_bestFor
set_option maxRecDepth 20000 in
theorem ggX5_looksFor_X5_finding : GoodIn wsX5_looksFor wsX5_finding := goodIn_r _ [98, 99, 1, 100, 101, 102, 103, 104, 105, 106, 107, 108, 109, 110, 111, 112, 113, 114, 115, 116, 117, 118, 119, 120, 121, 122] (by decide +kernel) (by decide +kernel)
set_option maxRecDepth 20000 in
theorem gX5_looksFor_X5_finding : GoodIn wsX5_looksFor (wsV RX5 76 RX5 yX5_finding wsX5_finding) := goodIn_app (goodIn_of _ (by decide +kernel)) ggX5_looksFor_X5_finding
theorem dX5_looksFor_0 : decode cX5_looksFor 0 = .ok (.aload_n 0, 1) := by decide +kernel
theorem dX5_looksFor_1 : decode cX5_looksFor 1 = .ok (.iload_n 1, 1) := by decide +kernel
theorem dX5_looksFor_2 : decode cX5_looksFor 2 = .ok (.iload_n 2, 1) := by decide +kernel
theorem dX5_looksFor_3 : decode cX5_looksFor 3 = .ok (.invokevirtual 202, 3) := by decide +kernel
theorem dX5_looksFor_6 : decode cX5_looksFor 6 = .ok (.ifCond .eq 16, 3) := by decide +kernel
theorem dX5_looksFor_9 : decode cX5_looksFor 9 = .ok (.aload_n 0, 1) := by decide +kernel
theorem dX5_looksFor_10 : decode cX5_looksFor 10 = .ok (.iload_n 1, 1) := by decide +kernel
theorem dX5_looksFor_11 : decode cX5_looksFor 11 = .ok (.iconst 2, 1) := by decide +kernel
theorem dX5_looksFor_12 : decode cX5_looksFor 12 = .ok (.iconst 0, 1) := by decide +kernel
theorem dX5_looksFor_13 : decode cX5_looksFor 13 = .ok (.bipush 7, 2) := by decide +kernel
theorem dX5_looksFor_15 : decode cX5_looksFor 15 = .ok (.iload_n 2, 1) := by decide +kernel
theorem dX5_looksFor_16 : decode cX5_looksFor 16 = .ok (.invokevirtual 205, 3) := by decide +kernel
theorem dX5_looksFor_19 : decode cX5_looksFor 19 = .ok (.goto 9, 3) := by decide +kernel
theorem dX5_looksFor_22 : decode cX5_looksFor 22 = .ok (.aload_n 0, 1) := by decide +kernel
theorem dX5_looksFor_23 : decode cX5_looksFor 23 = .ok (.ldc 70, 2) := by decide +kernel
theorem dX5_looksFor_25 : decode cX5_looksFor 25 = .ok (.invokevirtual 76, 3) := by decide +kernel
theorem dX5_looksFor_28 : decode cX5_looksFor 28 = .ok (.ireturn, 1) := by decide +kernel
set_option maxRecDepth 20000 in
theorem ggX5_loveFor_X5_isTried : GoodIn wsX5_loveFor wsX5_isTried := goodIn_r _ [7, 8, 9, 10, 6, 11, 1, 12, 13, 14, 100, 101, 102, 103, 104, 105, 106, 107, 108, 109, 110, 111, 112, 113, 114, 115, 116, 117, 118, 119, 120, 121, 122] (by decide +kernel) (by decide +kernel)
set_option maxRecDepth 20000 in
theorem gX5_loveFor_X5_isTried : GoodIn wsX5_loveFor (wsV RX5 202 RX5 yX5_isTried wsX5_isTried) := goodIn_app (goodIn_of _ (by decide +kernel)) ggX5_loveFor_X5_isTried
set_option maxRecDepth 20000 in
theorem ggX5_loveFor_X5_bestFor : GoodIn wsX5_loveFor wsX5_bestFor := goodIn_r _ [18, 1, 19, 20, 21, 22, 23, 24, 25, 6, 26, 27, 28, 29, 30, 31, 32, 33, 34, 35, 36, 37, 38, 39, 40, 41, 42, 43, 44, 45, 46, 47, 48, 49, 50, 51, 52, 53, 54, 55, 56, 57, 58, 59, 60, 61, 62, 63, 64, 65, 66, 67, 68, 69, 70, 71, 72, 73, 74, 75, 76, 77, 78, 79, 80, 81, 82, 83, 84, 85, 86, 87, 88, 89, 90, 91, 92, 93, 94, 100, 101, 102, 103, 104, 105, 106, 107, 108, 109, 110, 111, 112, 113, 114, 115, 116, 117, 118, 119, 120, 121, 122] (by decide +kernel) (by decide +kernel)
set_option maxRecDepth 20000 in
theorem gX5_loveFor_X5_bestFor : GoodIn wsX5_loveFor (wsV RX5 205 RX5 yX5_bestFor wsX5_bestFor) := goodIn_app (goodIn_of _ (by decide +kernel)) ggX5_loveFor_X5_bestFor
set_option maxRecDepth 20000 in
theorem ggX5_loveFor_X5_finding : GoodIn wsX5_loveFor wsX5_finding := goodIn_r _ [98, 99, 2, 100, 101, 102, 103, 104, 105, 106, 107, 108, 109, 110, 111, 112, 113, 114, 115, 116, 117, 118, 119, 120, 121, 122] (by decide +kernel) (by decide +kernel)
set_option maxRecDepth 20000 in
theorem gX5_loveFor_X5_finding : GoodIn wsX5_loveFor (wsV RX5 76 RX5 yX5_finding wsX5_finding) := goodIn_app (goodIn_of _ (by decide +kernel)) ggX5_loveFor_X5_finding
theorem dX5_loveFor_0 : decode cX5_loveFor 0 = .ok (.aload_n 0, 1) := by decide +kernel
theorem dX5_loveFor_1 : decode cX5_loveFor 1 = .ok (.iload_n 1, 1) := by decide +kernel
theorem dX5_loveFor_2 : decode cX5_loveFor 2 = .ok (.iload_n 2, 1) := by decide +kernel
theorem dX5_loveFor_3 : decode cX5_loveFor 3 = .ok (.invokevirtual 202, 3) := by decide +kernel
theorem dX5_loveFor_6 : decode cX5_loveFor 6 = .ok (.ifCond .eq 22, 3) := by decide +kernel
theorem dX5_loveFor_9 : decode cX5_loveFor 9 = .ok (.aload_n 0, 1) := by decide +kernel
theorem dX5_loveFor_10 : decode cX5_loveFor 10 = .ok (.iload_n 1, 1) := by decide +kernel
theorem dX5_loveFor_11 : decode cX5_loveFor 11 = .ok (.iconst 3, 1) := by decide +kernel
theorem dX5_loveFor_12 : decode cX5_loveFor 12 = .ok (.iconst (-1), 1) := by decide +kernel
theorem dX5_loveFor_13 : decode cX5_loveFor 13 = .ok (.aload_n 0, 1) := by decide +kernel
theorem dX5_loveFor_14 : decode cX5_loveFor 14 = .ok (.getfield 9, 3) := by decide +kernel
theorem dX5_loveFor_17 : decode cX5_loveFor 17 = .ok (.iconst 1, 1) := by decide +kernel
theorem dX5_loveFor_18 : decode cX5_loveFor 18 = .ok (.iaload, 1) := by decide +kernel
theorem dX5_loveFor_19 : decode cX5_loveFor 19 = .ok (.iconst 1, 1) := by decide +kernel
theorem dX5_loveFor_20 : decode cX5_loveFor 20 = .ok (.isub, 1) := by decide +kernel
theorem dX5_loveFor_21 : decode cX5_loveFor 21 = .ok (.iload_n 2, 1) := by decide +kernel
theorem dX5_loveFor_22 : decode cX5_loveFor 22 = .ok (.invokevirtual 205, 3) := by decide +kernel
theorem dX5_loveFor_25 : decode cX5_loveFor 25 = .ok (.goto 9, 3) := by decide +kernel
theorem dX5_loveFor_28 : decode cX5_loveFor 28 = .ok (.aload_n 0, 1) := by decide +kernel
theorem dX5_loveFor_29 : decode cX5_loveFor 29 = .ok (.ldc 70, 2) := by decide +kernel
theorem dX5_loveFor_31 : decode cX5_loveFor 31 = .ok (.invokevirtual 76, 3) := by decide +kernel
theorem dX5_loveFor_34 : decode cX5_loveFor 34 = .ok (.ireturn, 1) := by decide +kernel
set_option maxRecDepth 20000 in
theorem ggX5_manyNow_X5_looksAt : GoodIn wsX5_manyNow wsX5_looksAt := goodIn_r _ [5, 6, 7, 8, 9, 10, 11, 12, 4, 13, 14, 15, 16, 17, 18, 19, 20, 21, 22, 23, 24, 25, 26, 27, 28, 29, 30, 31, 32, 33, 34, 35, 36, 37, 38, 39, 40, 41, 42, 43, 44, 45, 46, 47, 48, 49, 50, 51, 52, 53, 54, 55, 56, 57, 58, 59, 60, 61, 62, 63, 64, 65, 66, 67, 68, 69, 70, 71, 72, 73, 74] (by decide +kernel) (by decide +kernel)
set_option maxRecDepth 20000 in
theorem gX5_manyNow_X5_looksAt : GoodIn wsX5_manyNow (wsV RX5 140 RX5 yX5_looksAt wsX5_looksAt) := goodIn_app (goodIn_of _ (by decide +kernel)) ggX5_manyNow_X5_looksAt
set_option maxRecDepth 20000 in
theorem ggX5_manyNow_X5_comers : GoodIn wsX5_manyNow wsX5_comers := goodIn_r _ [51, 6, 7, 52, 53, 54, 55, 56, 57, 58, 59, 60, 61, 62, 63, 64, 65, 66, 67, 68, 69, 70, 71, 72, 73, 74] (by decide +kernel) (by decide +kernel)
set_option maxRecDepth 20000 in
theorem gX5_manyNow_X5_comers : GoodIn wsX5_manyNow (wsV RX5 137 RX5 yX5_comers wsX5_comers) := goodIn_app (goodIn_of _ (by decide +kernel)) ggX5_manyNow_X5_comers
set_option maxRecDepth 20000 in
theorem ggX5_manyNow_X5_bits : GoodIn wsX5_manyNow wsX5_bits := goodIn_r _ [35] (by decide +kernel) (by decide +kernel)
set_option maxRecDepth 20000 in
theorem gX5_manyNow_X5_bits : GoodIn wsX5_manyNow (va_wsS RX5 112 yX5_bits wsX5_bits) := goodIn_app (goodIn_of _ (by decide +kernel)) ggX5_manyNow_X5_bits
theorem dX5_manyNow_0 : decode cX5_manyNow 0 = .ok (.aload_n 0, 1) := by decide +kernel
theorem dX5_manyNow_1 : decode cX5_manyNow 1 = .ok (.invokevirtual 140, 3) := by decide +kernel
theorem dX5_manyNow_4 : decode cX5_manyNow 4 = .ok (.aload_n 0, 1) := by decide +kernel
theorem dX5_manyNow_5 : decode cX5_manyNow 5 = .ok (.iload_n 1, 1) := by decide +kernel
theorem dX5_manyNow_6 : decode cX5_manyNow 6 = .ok (.invokevirtual 137, 3) := by decide +kernel
theorem dX5_manyNow_9 : decode cX5_manyNow 9 = .ok (.invokestatic 112, 3) := by decide +kernel
theorem dX5_manyNow_12 : decode cX5_manyNow 12 = .ok (.ireturn, 1) := by decide +kernel
set_option maxRecDepth 20000 in
theorem ggX5_prizeFor_X5_isPlace : GoodIn wsX5_prizeFor wsX5_isPlace := goodIn_r _ [6, 7, 8, 5, 9] (by decide +kernel) (by decide +kernel)
set_option maxRecDepth 20000 in
theorem gX5_prizeFor_X5_isPlace : GoodIn wsX5_prizeFor (va_wsS RX5 88 yX5_isPlace wsX5_isPlace) := goodIn_app (goodIn_of _ (by decide +kernel)) ggX5_prizeFor_X5_isPlace
set_option maxRecDepth 20000 in
theorem ggX5_prizeFor_X5_within : GoodIn wsX5_prizeFor wsX5_within := goodIn_r _ [9] (by decide +kernel) (by decide +kernel)
set_option maxRecDepth 20000 in
theorem gX5_prizeFor_X5_within : GoodIn wsX5_prizeFor (va_wsS RX5 80 yX5_within wsX5_within) := goodIn_app (goodIn_of _ (by decide +kernel)) ggX5_prizeFor_X5_within
set_option maxRecDepth 20000 in
theorem ggX5_prizeFor_X5_finding : GoodIn wsX5_prizeFor wsX5_finding := goodIn_r _ [13, 14, 1, 73, 74, 75, 76, 77, 78, 79, 80, 81, 82, 83, 84, 85, 86, 87, 88, 89, 90, 91, 92, 93, 94, 95] (by decide +kernel) (by decide +kernel)
set_option maxRecDepth 20000 in
theorem gX5_prizeFor_X5_finding : GoodIn wsX5_prizeFor (wsV RX5 76 RX5 yX5_finding wsX5_finding) := goodIn_app (goodIn_of _ (by decide +kernel)) ggX5_prizeFor_X5_finding
set_option maxRecDepth 20000 in
theorem ggX5_prizeFor_X5_manyNow : GoodIn wsX5_prizeFor wsX5_manyNow := goodIn_r _ [18, 19, 20, 21, 5, 22, 2, 23, 24, 25, 26, 27, 28, 29, 30, 31, 32, 33, 34, 35, 36, 37, 38, 39, 40, 41, 42, 43, 44, 45, 46, 47, 48, 49, 50, 51, 52, 53, 54, 55, 56, 57, 58, 59, 60, 61, 62, 63, 64, 65, 66, 67, 73, 74, 75, 76, 77, 78, 79, 80, 81, 82, 83, 84, 85, 86, 87, 88, 89, 90, 91, 92, 93, 94, 95] (by decide +kernel) (by decide +kernel)
set_option maxRecDepth 20000 in
theorem gX5_prizeFor_X5_manyNow : GoodIn wsX5_prizeFor (wsV RX5 209 RX5 yX5_manyNow wsX5_manyNow) := goodIn_app (goodIn_of _ (by decide +kernel)) ggX5_prizeFor_X5_manyNow
set_option maxRecDepth 20000 in
theorem ggX5_prizeFor_X5_orNone : GoodIn wsX5_prizeFor wsX5_orNone := goodIn_r _ [71, 72, 10, 11, 12, 5, 13, 14, 1, 73, 74, 75, 76, 77, 78, 79, 80, 81, 82, 83, 84, 85, 86, 87, 88, 89, 90, 91, 92, 93, 94, 95] (by decide +kernel) (by decide +kernel)
set_option maxRecDepth 20000 in
theorem gX5_prizeFor_X5_orNone : GoodIn wsX5_prizeFor (wsV RX5 189 RX5 yX5_orNone wsX5_orNone) := goodIn_app (goodIn_of _ (by decide +kernel)) ggX5_prizeFor_X5_orNone
theorem dX5_prizeFor_0 : decode cX5_prizeFor 0 = .ok (.iload_n 1, 1) := by decide +kernel
theorem dX5_prizeFor_1 : decode cX5_prizeFor 1 = .ok (.invokestatic 88, 3) := by decide +kernel
theorem dX5_prizeFor_4 : decode cX5_prizeFor 4 = .ok (.ifCond .eq 13, 3) := by decide +kernel
theorem dX5_prizeFor_7 : decode cX5_prizeFor 7 = .ok (.iload_n 2, 1) := by decide +kernel
theorem dX5_prizeFor_8 : decode cX5_prizeFor 8 = .ok (.iconst 0, 1) := by decide +kernel
theorem dX5_prizeFor_9 : decode cX5_prizeFor 9 = .ok (.bipush 8, 2) := by decide +kernel
theorem dX5_prizeFor_11 : decode cX5_prizeFor 11 = .ok (.invokestatic 80, 3) := by decide +kernel
theorem dX5_prizeFor_14 : decode cX5_prizeFor 14 = .ok (.ifCond .ne 10, 3) := by decide +kernel
theorem dX5_prizeFor_17 : decode cX5_prizeFor 17 = .ok (.aload_n 0, 1) := by decide +kernel
theorem dX5_prizeFor_18 : decode cX5_prizeFor 18 = .ok (.ldc 70, 2) := by decide +kernel
theorem dX5_prizeFor_20 : decode cX5_prizeFor 20 = .ok (.invokevirtual 76, 3) := by decide +kernel
theorem dX5_prizeFor_23 : decode cX5_prizeFor 23 = .ok (.ireturn, 1) := by decide +kernel
theorem dX5_prizeFor_24 : decode cX5_prizeFor 24 = .ok (.aload_n 0, 1) := by decide +kernel
theorem dX5_prizeFor_25 : decode cX5_prizeFor 25 = .ok (.getfield 9, 3) := by decide +kernel
theorem dX5_prizeFor_28 : decode cX5_prizeFor 28 = .ok (.bipush 13, 2) := by decide +kernel
theorem dX5_prizeFor_30 : decode cX5_prizeFor 30 = .ok (.iload_n 1, 1) := by decide +kernel
theorem dX5_prizeFor_31 : decode cX5_prizeFor 31 = .ok (.iadd, 1) := by decide +kernel
theorem dX5_prizeFor_32 : decode cX5_prizeFor 32 = .ok (.iaload, 1) := by decide +kernel
theorem dX5_prizeFor_33 : decode cX5_prizeFor 33 = .ok (.istore_n 3, 1) := by decide +kernel
theorem dX5_prizeFor_34 : decode cX5_prizeFor 34 = .ok (.iconst (-1), 1) := by decide +kernel
theorem dX5_prizeFor_35 : decode cX5_prizeFor 35 = .ok (.istore 4, 2) := by decide +kernel
theorem dX5_prizeFor_37 : decode cX5_prizeFor 37 = .ok (.sipush 200, 3) := by decide +kernel
theorem dX5_prizeFor_40 : decode cX5_prizeFor 40 = .ok (.istore 5, 2) := by decide +kernel
theorem dX5_prizeFor_42 : decode cX5_prizeFor 42 = .ok (.iload 5, 2) := by decide +kernel
theorem dX5_prizeFor_44 : decode cX5_prizeFor 44 = .ok (.ifCond .lt 38, 3) := by decide +kernel
theorem dX5_prizeFor_47 : decode cX5_prizeFor 47 = .ok (.aload_n 0, 1) := by decide +kernel
theorem dX5_prizeFor_48 : decode cX5_prizeFor 48 = .ok (.getfield 9, 3) := by decide +kernel
theorem dX5_prizeFor_51 : decode cX5_prizeFor 51 = .ok (.bipush 13, 2) := by decide +kernel
theorem dX5_prizeFor_53 : decode cX5_prizeFor 53 = .ok (.iload_n 1, 1) := by decide +kernel
theorem dX5_prizeFor_54 : decode cX5_prizeFor 54 = .ok (.iadd, 1) := by decide +kernel
theorem dX5_prizeFor_55 : decode cX5_prizeFor 55 = .ok (.iload 5, 2) := by decide +kernel
theorem dX5_prizeFor_57 : decode cX5_prizeFor 57 = .ok (.iastore, 1) := by decide +kernel
theorem dX5_prizeFor_58 : decode cX5_prizeFor 58 = .ok (.aload_n 0, 1) := by decide +kernel
theorem dX5_prizeFor_59 : decode cX5_prizeFor 59 = .ok (.iload_n 1, 1) := by decide +kernel
theorem dX5_prizeFor_60 : decode cX5_prizeFor 60 = .ok (.invokevirtual 209, 3) := by decide +kernel
theorem dX5_prizeFor_63 : decode cX5_prizeFor 63 = .ok (.iload_n 2, 1) := by decide +kernel
theorem dX5_prizeFor_64 : decode cX5_prizeFor 64 = .ok (.if_icmp .lt 8, 3) := by decide +kernel
theorem dX5_prizeFor_67 : decode cX5_prizeFor 67 = .ok (.iload 5, 2) := by decide +kernel
theorem dX5_prizeFor_69 : decode cX5_prizeFor 69 = .ok (.goto 5, 3) := by decide +kernel
theorem dX5_prizeFor_72 : decode cX5_prizeFor 72 = .ok (.iload 4, 2) := by decide +kernel
theorem dX5_prizeFor_74 : decode cX5_prizeFor 74 = .ok (.istore 4, 2) := by decide +kernel
theorem dX5_prizeFor_76 : decode cX5_prizeFor 76 = .ok (.iinc 5 (-1), 3) := by decide +kernel
theorem dX5_prizeFor_79 : decode cX5_prizeFor 79 = .ok (.goto (-37), 3) := by decide +kernel
theorem dX5_prizeFor_82 : decode cX5_prizeFor 82 = .ok (.aload_n 0, 1) := by decide +kernel
theorem dX5_prizeFor_83 : decode cX5_prizeFor 83 = .ok (.getfield 9, 3) := by decide +kernel
theorem dX5_prizeFor_86 : decode cX5_prizeFor 86 = .ok (.bipush 13, 2) := by decide +kernel
theorem dX5_prizeFor_88 : decode cX5_prizeFor 88 = .ok (.iload_n 1, 1) := by decide +kernel
theorem dX5_prizeFor_89 : decode cX5_prizeFor 89 = .ok (.iadd, 1) := by decide +kernel
theorem dX5_prizeFor_90 : decode cX5_prizeFor 90 = .ok (.iload_n 3, 1) := by decide +kernel
theorem dX5_prizeFor_91 : decode cX5_prizeFor 91 = .ok (.iastore, 1) := by decide +kernel
theorem dX5_prizeFor_92 : decode cX5_prizeFor 92 = .ok (.aload_n 0, 1) := by decide +kernel
theorem dX5_prizeFor_93 : decode cX5_prizeFor 93 = .ok (.iload 4, 2) := by decide +kernel
theorem dX5_prizeFor_95 : decode cX5_prizeFor 95 = .ok (.invokevirtual 189, 3) := by decide +kernel
theorem dX5_prizeFor_98 : decode cX5_prizeFor 98 = .ok (.ireturn, 1) := by decide +kernel
set_option maxRecDepth 20000 in
theorem ggX5_manyIfTold_X5_copyRow : GoodIn wsX5_manyIfTold wsX5_copyRow := goodIn_r _ [6] (by decide +kernel) (by decide +kernel)
set_option maxRecDepth 20000 in
theorem gX5_manyIfTold_X5_copyRow : GoodIn wsX5_manyIfTold (va_wsS RX5 71 yX5_copyRow wsX5_copyRow) := goodIn_app (goodIn_of _ (by decide +kernel)) ggX5_manyIfTold_X5_copyRow
set_option maxRecDepth 20000 in
theorem ggX5_manyIfTold_X5_at : GoodIn wsX5_manyIfTold wsX5_at := goodIn_r _ [9] (by decide +kernel) (by decide +kernel)
set_option maxRecDepth 20000 in
theorem gX5_manyIfTold_X5_at : GoodIn wsX5_manyIfTold (va_wsS RX5 84 yX5_at wsX5_at) := goodIn_app (goodIn_of _ (by decide +kernel)) ggX5_manyIfTold_X5_at
set_option maxRecDepth 20000 in
theorem ggX5_manyIfTold_X5_has : GoodIn wsX5_manyIfTold wsX5_has := goodIn_r _ [12] (by decide +kernel) (by decide +kernel)
set_option maxRecDepth 20000 in
theorem gX5_manyIfTold_X5_has : GoodIn wsX5_manyIfTold (va_wsS RX5 212 yX5_has wsX5_has) := goodIn_app (goodIn_of _ (by decide +kernel)) ggX5_manyIfTold_X5_has
set_option maxRecDepth 20000 in
theorem ggX5_manyIfTold_X5_personIs : GoodIn wsX5_manyIfTold wsX5_personIs := goodIn_r _ [16, 1, 7, 8, 5, 9, 67, 68, 69, 70, 71, 72, 73, 74, 75, 76, 77, 78, 79, 80, 81, 82, 83, 84, 85, 86, 87, 88, 89] (by decide +kernel) (by decide +kernel)
set_option maxRecDepth 20000 in
theorem gX5_manyIfTold_X5_personIs : GoodIn wsX5_manyIfTold (wsV RX5 106 RX5 yX5_personIs wsX5_personIs) := goodIn_app (goodIn_of _ (by decide +kernel)) ggX5_manyIfTold_X5_personIs
set_option maxRecDepth 20000 in
theorem ggX5_manyIfTold_X5_manyNow : GoodIn wsX5_manyIfTold wsX5_manyNow := goodIn_r _ [20, 21, 22, 23, 5, 24, 1, 25, 26, 27, 28, 29, 30, 31, 13, 14, 15, 16, 7, 8, 9, 32, 33, 34, 35, 36, 37, 38, 39, 40, 41, 42, 43, 44, 45, 46, 47, 48, 49, 50, 51, 52, 53, 54, 55, 56, 57, 58, 59, 60, 61, 62, 67, 68, 69, 70, 71, 72, 73, 74, 75, 76, 77, 78, 79, 80, 81, 82, 83, 84, 85, 86, 87, 88, 89] (by decide +kernel) (by decide +kernel)
set_option maxRecDepth 20000 in
theorem gX5_manyIfTold_X5_manyNow : GoodIn wsX5_manyIfTold (wsV RX5 209 RX5 yX5_manyNow wsX5_manyNow) := goodIn_app (goodIn_of _ (by decide +kernel)) ggX5_manyIfTold_X5_manyNow
set_option maxRecDepth 20000 in
theorem ggX5_manyIfTold_X5_putBack : GoodIn wsX5_manyIfTold wsX5_putBack := goodIn_r _ [66, 2, 1, 3, 4, 5, 6, 67, 68, 69, 70, 71, 72, 73, 74, 75, 76, 77, 78, 79, 80, 81, 82, 83, 84, 85, 86, 87, 88, 89] (by decide +kernel) (by decide +kernel)
set_option maxRecDepth 20000 in
theorem gX5_manyIfTold_X5_putBack : GoodIn wsX5_manyIfTold (wsV RX5 180 RX5 yX5_putBack wsX5_putBack) := goodIn_app (goodIn_of _ (by decide +kernel)) ggX5_manyIfTold_X5_putBack
theorem dX5_manyIfTold_0 : decode cX5_manyIfTold 0 = .ok (.aload_n 0, 1) := by decide +kernel
theorem dX5_manyIfTold_1 : decode cX5_manyIfTold 1 = .ok (.getfield 9, 3) := by decide +kernel
theorem dX5_manyIfTold_4 : decode cX5_manyIfTold 4 = .ok (.aload_n 0, 1) := by decide +kernel
theorem dX5_manyIfTold_5 : decode cX5_manyIfTold 5 = .ok (.getfield 16, 3) := by decide +kernel
theorem dX5_manyIfTold_8 : decode cX5_manyIfTold 8 = .ok (.invokestatic 71, 3) := by decide +kernel
theorem dX5_manyIfTold_11 : decode cX5_manyIfTold 11 = .ok (.iconst 0, 1) := by decide +kernel
theorem dX5_manyIfTold_12 : decode cX5_manyIfTold 12 = .ok (.istore_n 3, 1) := by decide +kernel
theorem dX5_manyIfTold_13 : decode cX5_manyIfTold 13 = .ok (.iload_n 3, 1) := by decide +kernel
theorem dX5_manyIfTold_14 : decode cX5_manyIfTold 14 = .ok (.aload_n 0, 1) := by decide +kernel
theorem dX5_manyIfTold_15 : decode cX5_manyIfTold 15 = .ok (.getfield 9, 3) := by decide +kernel
theorem dX5_manyIfTold_18 : decode cX5_manyIfTold 18 = .ok (.iconst 1, 1) := by decide +kernel
theorem dX5_manyIfTold_19 : decode cX5_manyIfTold 19 = .ok (.iaload, 1) := by decide +kernel
theorem dX5_manyIfTold_20 : decode cX5_manyIfTold 20 = .ok (.if_icmp .ge 37, 3) := by decide +kernel
theorem dX5_manyIfTold_23 : decode cX5_manyIfTold 23 = .ok (.aload_n 0, 1) := by decide +kernel
theorem dX5_manyIfTold_24 : decode cX5_manyIfTold 24 = .ok (.getfield 9, 3) := by decide +kernel
theorem dX5_manyIfTold_27 : decode cX5_manyIfTold 27 = .ok (.iload_n 3, 1) := by decide +kernel
theorem dX5_manyIfTold_28 : decode cX5_manyIfTold 28 = .ok (.iconst 1, 1) := by decide +kernel
theorem dX5_manyIfTold_29 : decode cX5_manyIfTold 29 = .ok (.invokestatic 84, 3) := by decide +kernel
theorem dX5_manyIfTold_32 : decode cX5_manyIfTold 32 = .ok (.iload_n 1, 1) := by decide +kernel
theorem dX5_manyIfTold_33 : decode cX5_manyIfTold 33 = .ok (.iload_n 3, 1) := by decide +kernel
theorem dX5_manyIfTold_34 : decode cX5_manyIfTold 34 = .ok (.invokestatic 212, 3) := by decide +kernel
theorem dX5_manyIfTold_37 : decode cX5_manyIfTold 37 = .ok (.ifCond .eq 7, 3) := by decide +kernel
theorem dX5_manyIfTold_40 : decode cX5_manyIfTold 40 = .ok (.iload_n 2, 1) := by decide +kernel
theorem dX5_manyIfTold_41 : decode cX5_manyIfTold 41 = .ok (.goto 9, 3) := by decide +kernel
theorem dX5_manyIfTold_44 : decode cX5_manyIfTold 44 = .ok (.aload_n 0, 1) := by decide +kernel
theorem dX5_manyIfTold_45 : decode cX5_manyIfTold 45 = .ok (.iload_n 3, 1) := by decide +kernel
theorem dX5_manyIfTold_46 : decode cX5_manyIfTold 46 = .ok (.iconst 1, 1) := by decide +kernel
theorem dX5_manyIfTold_47 : decode cX5_manyIfTold 47 = .ok (.invokevirtual 106, 3) := by decide +kernel
theorem dX5_manyIfTold_50 : decode cX5_manyIfTold 50 = .ok (.iastore, 1) := by decide +kernel
theorem dX5_manyIfTold_51 : decode cX5_manyIfTold 51 = .ok (.iinc 3 1, 3) := by decide +kernel
theorem dX5_manyIfTold_54 : decode cX5_manyIfTold 54 = .ok (.goto (-41), 3) := by decide +kernel
theorem dX5_manyIfTold_57 : decode cX5_manyIfTold 57 = .ok (.aload_n 0, 1) := by decide +kernel
theorem dX5_manyIfTold_58 : decode cX5_manyIfTold 58 = .ok (.aload_n 0, 1) := by decide +kernel
theorem dX5_manyIfTold_59 : decode cX5_manyIfTold 59 = .ok (.iload_n 2, 1) := by decide +kernel
theorem dX5_manyIfTold_60 : decode cX5_manyIfTold 60 = .ok (.invokevirtual 209, 3) := by decide +kernel
theorem dX5_manyIfTold_63 : decode cX5_manyIfTold 63 = .ok (.invokevirtual 180, 3) := by decide +kernel
theorem dX5_manyIfTold_66 : decode cX5_manyIfTold 66 = .ok (.ireturn, 1) := by decide +kernel
set_option maxRecDepth 20000 in
theorem ggX5_tell_X5_isPlace : GoodIn wsX5_tell wsX5_isPlace := goodIn_r _ [6, 7, 8, 5, 9] (by decide +kernel) (by decide +kernel)
set_option maxRecDepth 20000 in
theorem gX5_tell_X5_isPlace : GoodIn wsX5_tell (va_wsS RX5 88 yX5_isPlace wsX5_isPlace) := goodIn_app (goodIn_of _ (by decide +kernel)) ggX5_tell_X5_isPlace
set_option maxRecDepth 20000 in
theorem ggX5_tell_X5_within : GoodIn wsX5_tell wsX5_within := goodIn_r _ [9] (by decide +kernel) (by decide +kernel)
set_option maxRecDepth 20000 in
theorem gX5_tell_X5_within : GoodIn wsX5_tell (va_wsS RX5 80 yX5_within wsX5_within) := goodIn_app (goodIn_of _ (by decide +kernel)) ggX5_tell_X5_within
set_option maxRecDepth 20000 in
theorem ggX5_tell_X5_finding : GoodIn wsX5_tell wsX5_finding := goodIn_r _ [13, 14, 1, 88, 89, 90, 91, 92, 93, 94, 95, 96, 97, 98, 99, 100, 101, 102, 103, 104, 105, 106, 107, 108, 109, 110] (by decide +kernel) (by decide +kernel)
set_option maxRecDepth 20000 in
theorem gX5_tell_X5_finding : GoodIn wsX5_tell (wsV RX5 76 RX5 yX5_finding wsX5_finding) := goodIn_app (goodIn_of _ (by decide +kernel)) ggX5_tell_X5_finding
set_option maxRecDepth 20000 in
theorem ggX5_tell_X5_bits : GoodIn wsX5_tell wsX5_bits := goodIn_r _ [17] (by decide +kernel) (by decide +kernel)
set_option maxRecDepth 20000 in
theorem gX5_tell_X5_bits : GoodIn wsX5_tell (va_wsS RX5 112 yX5_bits wsX5_bits) := goodIn_app (goodIn_of _ (by decide +kernel)) ggX5_tell_X5_bits
set_option maxRecDepth 20000 in
theorem ggX5_tell_X5_manyIfTold : GoodIn wsX5_tell wsX5_manyIfTold := goodIn_r _ [21, 2, 22, 23, 24, 5, 25, 26, 27, 28, 29, 30, 31, 32, 33, 34, 35, 36, 37, 38, 39, 40, 41, 42, 43, 44, 45, 46, 47, 48, 49, 50, 51, 52, 53, 54, 55, 56, 57, 58, 59, 60, 61, 62, 15, 16, 17, 63, 64, 65, 66, 67, 68, 69, 70, 71, 72, 73, 74, 75, 76, 77, 78, 79, 80, 81, 82, 88, 89, 90, 91, 92, 93, 94, 95, 96, 97, 98, 99, 100, 101, 102, 103, 104, 105, 106, 107, 108, 109, 110] (by decide +kernel) (by decide +kernel)
set_option maxRecDepth 20000 in
theorem gX5_tell_X5_manyIfTold : GoodIn wsX5_tell (wsV RX5 215 RX5 yX5_manyIfTold wsX5_manyIfTold) := goodIn_app (goodIn_of _ (by decide +kernel)) ggX5_tell_X5_manyIfTold
set_option maxRecDepth 20000 in
theorem ggX5_tell_X5_orNone : GoodIn wsX5_tell wsX5_orNone := goodIn_r _ [86, 87, 10, 11, 12, 5, 13, 14, 1, 88, 89, 90, 91, 92, 93, 94, 95, 96, 97, 98, 99, 100, 101, 102, 103, 104, 105, 106, 107, 108, 109, 110] (by decide +kernel) (by decide +kernel)
set_option maxRecDepth 20000 in
theorem gX5_tell_X5_orNone : GoodIn wsX5_tell (wsV RX5 189 RX5 yX5_orNone wsX5_orNone) := goodIn_app (goodIn_of _ (by decide +kernel)) ggX5_tell_X5_orNone
theorem dX5_tell_0 : decode cX5_tell 0 = .ok (.iload_n 1, 1) := by decide +kernel
theorem dX5_tell_1 : decode cX5_tell 1 = .ok (.invokestatic 88, 3) := by decide +kernel
theorem dX5_tell_4 : decode cX5_tell 4 = .ok (.ifCond .eq 13, 3) := by decide +kernel
theorem dX5_tell_7 : decode cX5_tell 7 = .ok (.iload_n 2, 1) := by decide +kernel
theorem dX5_tell_8 : decode cX5_tell 8 = .ok (.iconst 0, 1) := by decide +kernel
theorem dX5_tell_9 : decode cX5_tell 9 = .ok (.bipush 8, 2) := by decide +kernel
theorem dX5_tell_11 : decode cX5_tell 11 = .ok (.invokestatic 80, 3) := by decide +kernel
theorem dX5_tell_14 : decode cX5_tell 14 = .ok (.ifCond .ne 10, 3) := by decide +kernel
theorem dX5_tell_17 : decode cX5_tell 17 = .ok (.aload_n 0, 1) := by decide +kernel
theorem dX5_tell_18 : decode cX5_tell 18 = .ok (.ldc 70, 2) := by decide +kernel
theorem dX5_tell_20 : decode cX5_tell 20 = .ok (.invokevirtual 76, 3) := by decide +kernel
theorem dX5_tell_23 : decode cX5_tell 23 = .ok (.ireturn, 1) := by decide +kernel
theorem dX5_tell_24 : decode cX5_tell 24 = .ok (.iconst (-1), 1) := by decide +kernel
theorem dX5_tell_25 : decode cX5_tell 25 = .ok (.istore_n 3, 1) := by decide +kernel
theorem dX5_tell_26 : decode cX5_tell 26 = .ok (.iconst 0, 1) := by decide +kernel
theorem dX5_tell_27 : decode cX5_tell 27 = .ok (.istore 4, 2) := by decide +kernel
theorem dX5_tell_29 : decode cX5_tell 29 = .ok (.iload 4, 2) := by decide +kernel
theorem dX5_tell_31 : decode cX5_tell 31 = .ok (.iconst 1, 1) := by decide +kernel
theorem dX5_tell_32 : decode cX5_tell 32 = .ok (.aload_n 0, 1) := by decide +kernel
theorem dX5_tell_33 : decode cX5_tell 33 = .ok (.getfield 9, 3) := by decide +kernel
theorem dX5_tell_36 : decode cX5_tell 36 = .ok (.iconst 1, 1) := by decide +kernel
theorem dX5_tell_37 : decode cX5_tell 37 = .ok (.iaload, 1) := by decide +kernel
theorem dX5_tell_38 : decode cX5_tell 38 = .ok (.ishl, 1) := by decide +kernel
theorem dX5_tell_39 : decode cX5_tell 39 = .ok (.if_icmp .ge 55, 3) := by decide +kernel
theorem dX5_tell_42 : decode cX5_tell 42 = .ok (.iload_n 3, 1) := by decide +kernel
theorem dX5_tell_43 : decode cX5_tell 43 = .ok (.ifCond .lt 15, 3) := by decide +kernel
theorem dX5_tell_46 : decode cX5_tell 46 = .ok (.iload 4, 2) := by decide +kernel
theorem dX5_tell_48 : decode cX5_tell 48 = .ok (.invokestatic 112, 3) := by decide +kernel
theorem dX5_tell_51 : decode cX5_tell 51 = .ok (.iload_n 3, 1) := by decide +kernel
theorem dX5_tell_52 : decode cX5_tell 52 = .ok (.invokestatic 112, 3) := by decide +kernel
theorem dX5_tell_55 : decode cX5_tell 55 = .ok (.if_icmp .ge 7, 3) := by decide +kernel
theorem dX5_tell_58 : decode cX5_tell 58 = .ok (.iconst 1, 1) := by decide +kernel
theorem dX5_tell_59 : decode cX5_tell 59 = .ok (.goto 4, 3) := by decide +kernel
theorem dX5_tell_62 : decode cX5_tell 62 = .ok (.iconst 0, 1) := by decide +kernel
theorem dX5_tell_63 : decode cX5_tell 63 = .ok (.istore 5, 2) := by decide +kernel
theorem dX5_tell_65 : decode cX5_tell 65 = .ok (.iload 5, 2) := by decide +kernel
theorem dX5_tell_67 : decode cX5_tell 67 = .ok (.ifCond .eq 19, 3) := by decide +kernel
theorem dX5_tell_70 : decode cX5_tell 70 = .ok (.aload_n 0, 1) := by decide +kernel
theorem dX5_tell_71 : decode cX5_tell 71 = .ok (.iload 4, 2) := by decide +kernel
theorem dX5_tell_73 : decode cX5_tell 73 = .ok (.iload_n 1, 1) := by decide +kernel
theorem dX5_tell_74 : decode cX5_tell 74 = .ok (.invokevirtual 215, 3) := by decide +kernel
theorem dX5_tell_77 : decode cX5_tell 77 = .ok (.iload_n 2, 1) := by decide +kernel
theorem dX5_tell_78 : decode cX5_tell 78 = .ok (.if_icmp .lt 8, 3) := by decide +kernel
theorem dX5_tell_81 : decode cX5_tell 81 = .ok (.iload 4, 2) := by decide +kernel
theorem dX5_tell_83 : decode cX5_tell 83 = .ok (.goto 4, 3) := by decide +kernel
theorem dX5_tell_86 : decode cX5_tell 86 = .ok (.iload_n 3, 1) := by decide +kernel
theorem dX5_tell_87 : decode cX5_tell 87 = .ok (.istore_n 3, 1) := by decide +kernel
theorem dX5_tell_88 : decode cX5_tell 88 = .ok (.iinc 4 1, 3) := by decide +kernel
theorem dX5_tell_91 : decode cX5_tell 91 = .ok (.goto (-62), 3) := by decide +kernel
theorem dX5_tell_94 : decode cX5_tell 94 = .ok (.aload_n 0, 1) := by decide +kernel
theorem dX5_tell_95 : decode cX5_tell 95 = .ok (.iload_n 3, 1) := by decide +kernel
theorem dX5_tell_96 : decode cX5_tell 96 = .ok (.invokevirtual 189, 3) := by decide +kernel
theorem dX5_tell_99 : decode cX5_tell 99 = .ok (.ireturn, 1) := by decide +kernel
set_option maxRecDepth 20000 in
theorem ggX5_goodsWithout_X5_copyRow : GoodIn wsX5_goodsWithout wsX5_copyRow := goodIn_r _ [7] (by decide +kernel) (by decide +kernel)
set_option maxRecDepth 20000 in
theorem gX5_goodsWithout_X5_copyRow : GoodIn wsX5_goodsWithout (va_wsS RX5 71 yX5_copyRow wsX5_copyRow) := goodIn_app (goodIn_of _ (by decide +kernel)) ggX5_goodsWithout_X5_copyRow
set_option maxRecDepth 20000 in
theorem ggX5_goodsWithout_X5_goes : GoodIn wsX5_goodsWithout wsX5_goes := goodIn_r _ [11, 1, 12, 13, 14, 15, 16, 17, 3, 18, 19, 20, 21, 6, 22, 23, 24, 25, 26, 27, 28, 29, 30, 31, 32, 33, 34, 35, 36, 37, 38, 39, 40, 41, 42, 43, 44, 45, 46, 47, 48, 49, 50, 51, 52, 53, 54, 55, 56, 57, 58, 59, 60, 61, 62, 63, 72, 73, 74, 75, 76, 77, 78, 79, 80, 81, 82, 83, 84, 85, 86, 87, 88, 89, 90, 91, 92, 93, 94] (by decide +kernel) (by decide +kernel)
set_option maxRecDepth 20000 in
theorem gX5_goodsWithout_X5_goes : GoodIn wsX5_goodsWithout (wsV RX5 156 RX5 yX5_goes wsX5_goes) := goodIn_app (goodIn_of _ (by decide +kernel)) ggX5_goodsWithout_X5_goes
set_option maxRecDepth 20000 in
theorem ggX5_goodsWithout_X5_goodsAll : GoodIn wsX5_goodsWithout wsX5_goodsAll := goodIn_r _ [67, 1, 27, 28, 29, 6, 30, 31, 32, 33, 72, 73, 74, 75, 76, 77, 78, 79, 80, 81, 82, 83, 84, 85, 86, 87, 88, 89, 90, 91, 92, 93, 94] (by decide +kernel) (by decide +kernel)
set_option maxRecDepth 20000 in
theorem gX5_goodsWithout_X5_goodsAll : GoodIn wsX5_goodsWithout (wsV RX5 164 RX5 yX5_goodsAll wsX5_goodsAll) := goodIn_app (goodIn_of _ (by decide +kernel)) ggX5_goodsWithout_X5_goodsAll
set_option maxRecDepth 20000 in
theorem ggX5_goodsWithout_X5_personIs : GoodIn wsX5_goodsWithout wsX5_personIs := goodIn_r _ [30, 1, 31, 32, 6, 33, 72, 73, 74, 75, 76, 77, 78, 79, 80, 81, 82, 83, 84, 85, 86, 87, 88, 89, 90, 91, 92, 93, 94] (by decide +kernel) (by decide +kernel)
set_option maxRecDepth 20000 in
theorem gX5_goodsWithout_X5_personIs : GoodIn wsX5_goodsWithout (wsV RX5 106 RX5 yX5_personIs wsX5_personIs) := goodIn_app (goodIn_of _ (by decide +kernel)) ggX5_goodsWithout_X5_personIs
set_option maxRecDepth 20000 in
theorem ggX5_goodsWithout_X5_putBack : GoodIn wsX5_goodsWithout wsX5_putBack := goodIn_r _ [71, 2, 1, 4, 5, 6, 7, 72, 73, 74, 75, 76, 77, 78, 79, 80, 81, 82, 83, 84, 85, 86, 87, 88, 89, 90, 91, 92, 93, 94] (by decide +kernel) (by decide +kernel)
set_option maxRecDepth 20000 in
theorem gX5_goodsWithout_X5_putBack : GoodIn wsX5_goodsWithout (wsV RX5 180 RX5 yX5_putBack wsX5_putBack) := goodIn_app (goodIn_of _ (by decide +kernel)) ggX5_goodsWithout_X5_putBack
