/-! ===== decoded, and the words ===== -/
theorem dX0_init_0 : decode cX0_init 0 = .ok (.aload_n 0, 1) := by decide +kernel
theorem dX0_init_1 : decode cX0_init 1 = .ok (.invokespecial 3, 3) := by decide +kernel
theorem dX0_init_4 : decode cX0_init 4 = .ok (.aload_n 0, 1) := by decide +kernel
theorem dX0_init_5 : decode cX0_init 5 = .ok (.bipush 40, 2) := by decide +kernel
theorem dX0_init_7 : decode cX0_init 7 = .ok (.newarray .int, 2) := by decide +kernel
theorem dX0_init_9 : decode cX0_init 9 = .ok (.putfield 9, 3) := by decide +kernel
theorem dX0_init_12 : decode cX0_init 12 = .ok (.return_, 1) := by decide +kernel
theorem dX1_init_0 : decode cX1_init 0 = .ok (.aload_n 0, 1) := by decide +kernel
theorem dX1_init_1 : decode cX1_init 1 = .ok (.invokespecial 3, 3) := by decide +kernel
theorem dX1_init_4 : decode cX1_init 4 = .ok (.aload_n 0, 1) := by decide +kernel
theorem dX1_init_5 : decode cX1_init 5 = .ok (.bipush 120, 2) := by decide +kernel
theorem dX1_init_7 : decode cX1_init 7 = .ok (.newarray .int, 2) := by decide +kernel
theorem dX1_init_9 : decode cX1_init 9 = .ok (.putfield 9, 3) := by decide +kernel
theorem dX1_init_12 : decode cX1_init 12 = .ok (.return_, 1) := by decide +kernel
theorem dX2_init_0 : decode cX2_init 0 = .ok (.aload_n 0, 1) := by decide +kernel
theorem dX2_init_1 : decode cX2_init 1 = .ok (.invokespecial 3, 3) := by decide +kernel
theorem dX2_init_4 : decode cX2_init 4 = .ok (.aload_n 0, 1) := by decide +kernel
theorem dX2_init_5 : decode cX2_init 5 = .ok (.new 9, 3) := by decide +kernel
theorem dX2_init_8 : decode cX2_init 8 = .ok (.dup, 1) := by decide +kernel
theorem dX2_init_9 : decode cX2_init 9 = .ok (.invokespecial 11, 3) := by decide +kernel
theorem dX2_init_12 : decode cX2_init 12 = .ok (.putfield 12, 3) := by decide +kernel
theorem dX2_init_15 : decode cX2_init 15 = .ok (.aload_n 0, 1) := by decide +kernel
theorem dX2_init_16 : decode cX2_init 16 = .ok (.new 18, 3) := by decide +kernel
theorem dX2_init_19 : decode cX2_init 19 = .ok (.dup, 1) := by decide +kernel
theorem dX2_init_20 : decode cX2_init 20 = .ok (.invokespecial 20, 3) := by decide +kernel
theorem dX2_init_23 : decode cX2_init 23 = .ok (.putfield 21, 3) := by decide +kernel
theorem dX2_init_26 : decode cX2_init 26 = .ok (.return_, 1) := by decide +kernel
theorem dX3_init_0 : decode cX3_init 0 = .ok (.aload_n 0, 1) := by decide +kernel
theorem dX3_init_1 : decode cX3_init 1 = .ok (.invokespecial 3, 3) := by decide +kernel
theorem dX3_init_4 : decode cX3_init 4 = .ok (.aload_n 0, 1) := by decide +kernel
theorem dX3_init_5 : decode cX3_init 5 = .ok (.bipush 8, 2) := by decide +kernel
theorem dX3_init_7 : decode cX3_init 7 = .ok (.newarray .int, 2) := by decide +kernel
theorem dX3_init_9 : decode cX3_init 9 = .ok (.putfield 9, 3) := by decide +kernel
theorem dX3_init_12 : decode cX3_init 12 = .ok (.aload_n 0, 1) := by decide +kernel
theorem dX3_init_13 : decode cX3_init 13 = .ok (.bipush 8, 2) := by decide +kernel
theorem dX3_init_15 : decode cX3_init 15 = .ok (.newarray .int, 2) := by decide +kernel
theorem dX3_init_17 : decode cX3_init 17 = .ok (.putfield 15, 3) := by decide +kernel
theorem dX3_init_20 : decode cX3_init 20 = .ok (.aload_n 0, 1) := by decide +kernel
theorem dX3_init_21 : decode cX3_init 21 = .ok (.bipush 8, 2) := by decide +kernel
theorem dX3_init_23 : decode cX3_init 23 = .ok (.newarray .int, 2) := by decide +kernel
theorem dX3_init_25 : decode cX3_init 25 = .ok (.putfield 18, 3) := by decide +kernel
theorem dX3_init_28 : decode cX3_init 28 = .ok (.aload_n 0, 1) := by decide +kernel
theorem dX3_init_29 : decode cX3_init 29 = .ok (.bipush 8, 2) := by decide +kernel
theorem dX3_init_31 : decode cX3_init 31 = .ok (.newarray .int, 2) := by decide +kernel
theorem dX3_init_33 : decode cX3_init 33 = .ok (.putfield 21, 3) := by decide +kernel
theorem dX3_init_36 : decode cX3_init 36 = .ok (.aload_n 0, 1) := by decide +kernel
theorem dX3_init_37 : decode cX3_init 37 = .ok (.bipush 8, 2) := by decide +kernel
theorem dX3_init_39 : decode cX3_init 39 = .ok (.newarray .int, 2) := by decide +kernel
theorem dX3_init_41 : decode cX3_init 41 = .ok (.putfield 24, 3) := by decide +kernel
theorem dX3_init_44 : decode cX3_init 44 = .ok (.aload_n 0, 1) := by decide +kernel
theorem dX3_init_45 : decode cX3_init 45 = .ok (.bipush 8, 2) := by decide +kernel
theorem dX3_init_47 : decode cX3_init 47 = .ok (.newarray .int, 2) := by decide +kernel
theorem dX3_init_49 : decode cX3_init 49 = .ok (.putfield 27, 3) := by decide +kernel
theorem dX3_init_52 : decode cX3_init 52 = .ok (.aload_n 0, 1) := by decide +kernel
theorem dX3_init_53 : decode cX3_init 53 = .ok (.bipush 10, 2) := by decide +kernel
theorem dX3_init_55 : decode cX3_init 55 = .ok (.newarray .int, 2) := by decide +kernel
theorem dX3_init_57 : decode cX3_init 57 = .ok (.putfield 30, 3) := by decide +kernel
theorem dX3_init_60 : decode cX3_init 60 = .ok (.aload_n 0, 1) := by decide +kernel
theorem dX3_init_61 : decode cX3_init 61 = .ok (.bipush 8, 2) := by decide +kernel
theorem dX3_init_63 : decode cX3_init 63 = .ok (.newarray .int, 2) := by decide +kernel
theorem dX3_init_65 : decode cX3_init 65 = .ok (.putfield 33, 3) := by decide +kernel
theorem dX3_init_68 : decode cX3_init 68 = .ok (.aload_n 0, 1) := by decide +kernel
theorem dX3_init_69 : decode cX3_init 69 = .ok (.bipush 8, 2) := by decide +kernel
theorem dX3_init_71 : decode cX3_init 71 = .ok (.newarray .int, 2) := by decide +kernel
theorem dX3_init_73 : decode cX3_init 73 = .ok (.putfield 36, 3) := by decide +kernel
theorem dX3_init_76 : decode cX3_init 76 = .ok (.aload_n 0, 1) := by decide +kernel
theorem dX3_init_77 : decode cX3_init 77 = .ok (.bipush 8, 2) := by decide +kernel
theorem dX3_init_79 : decode cX3_init 79 = .ok (.newarray .int, 2) := by decide +kernel
theorem dX3_init_81 : decode cX3_init 81 = .ok (.putfield 39, 3) := by decide +kernel
theorem dX3_init_84 : decode cX3_init 84 = .ok (.aload_n 0, 1) := by decide +kernel
theorem dX3_init_85 : decode cX3_init 85 = .ok (.getfield 9, 3) := by decide +kernel
theorem dX3_init_88 : decode cX3_init 88 = .ok (.bipush 10, 2) := by decide +kernel
theorem dX3_init_90 : decode cX3_init 90 = .ok (.invokestatic 42, 3) := by decide +kernel
theorem dX3_init_93 : decode cX3_init 93 = .ok (.aload_n 0, 1) := by decide +kernel
theorem dX3_init_94 : decode cX3_init 94 = .ok (.getfield 30, 3) := by decide +kernel
theorem dX3_init_97 : decode cX3_init 97 = .ok (.iconst (-1), 1) := by decide +kernel
theorem dX3_init_98 : decode cX3_init 98 = .ok (.invokestatic 42, 3) := by decide +kernel
theorem dX3_init_101 : decode cX3_init 101 = .ok (.aload_n 0, 1) := by decide +kernel
theorem dX3_init_102 : decode cX3_init 102 = .ok (.iconst 0, 1) := by decide +kernel
theorem dX3_init_103 : decode cX3_init 103 = .ok (.putfield 48, 3) := by decide +kernel
theorem dX3_init_106 : decode cX3_init 106 = .ok (.aload_n 0, 1) := by decide +kernel
theorem dX3_init_107 : decode cX3_init 107 = .ok (.iconst 0, 1) := by decide +kernel
theorem dX3_init_108 : decode cX3_init 108 = .ok (.putfield 52, 3) := by decide +kernel
theorem dX3_init_111 : decode cX3_init 111 = .ok (.aload_n 0, 1) := by decide +kernel
theorem dX3_init_112 : decode cX3_init 112 = .ok (.iconst 1, 1) := by decide +kernel
theorem dX3_init_113 : decode cX3_init 113 = .ok (.putfield 55, 3) := by decide +kernel
theorem dX3_init_116 : decode cX3_init 116 = .ok (.return_, 1) := by decide +kernel
theorem dX4_init_0 : decode cX4_init 0 = .ok (.aload_n 0, 1) := by decide +kernel
theorem dX4_init_1 : decode cX4_init 1 = .ok (.invokespecial 3, 3) := by decide +kernel
theorem dX4_init_4 : decode cX4_init 4 = .ok (.aload_n 0, 1) := by decide +kernel
theorem dX4_init_5 : decode cX4_init 5 = .ok (.new 9, 3) := by decide +kernel
theorem dX4_init_8 : decode cX4_init 8 = .ok (.dup, 1) := by decide +kernel
theorem dX4_init_9 : decode cX4_init 9 = .ok (.invokespecial 11, 3) := by decide +kernel
theorem dX4_init_12 : decode cX4_init 12 = .ok (.putfield 12, 3) := by decide +kernel
theorem dX4_init_15 : decode cX4_init 15 = .ok (.aload_n 0, 1) := by decide +kernel
theorem dX4_init_16 : decode cX4_init 16 = .ok (.new 9, 3) := by decide +kernel
theorem dX4_init_19 : decode cX4_init 19 = .ok (.dup, 1) := by decide +kernel
theorem dX4_init_20 : decode cX4_init 20 = .ok (.invokespecial 11, 3) := by decide +kernel
theorem dX4_init_23 : decode cX4_init 23 = .ok (.putfield 16, 3) := by decide +kernel
theorem dX4_init_26 : decode cX4_init 26 = .ok (.aload_n 0, 1) := by decide +kernel
theorem dX4_init_27 : decode cX4_init 27 = .ok (.new 9, 3) := by decide +kernel
theorem dX4_init_30 : decode cX4_init 30 = .ok (.dup, 1) := by decide +kernel
theorem dX4_init_31 : decode cX4_init 31 = .ok (.invokespecial 11, 3) := by decide +kernel
theorem dX4_init_34 : decode cX4_init 34 = .ok (.putfield 19, 3) := by decide +kernel
theorem dX4_init_37 : decode cX4_init 37 = .ok (.aload_n 0, 1) := by decide +kernel
theorem dX4_init_38 : decode cX4_init 38 = .ok (.new 22, 3) := by decide +kernel
theorem dX4_init_41 : decode cX4_init 41 = .ok (.dup, 1) := by decide +kernel
theorem dX4_init_42 : decode cX4_init 42 = .ok (.invokespecial 24, 3) := by decide +kernel
theorem dX4_init_45 : decode cX4_init 45 = .ok (.putfield 25, 3) := by decide +kernel
theorem dX4_init_48 : decode cX4_init 48 = .ok (.aload_n 0, 1) := by decide +kernel
theorem dX4_init_49 : decode cX4_init 49 = .ok (.iconst 4, 1) := by decide +kernel
theorem dX4_init_50 : decode cX4_init 50 = .ok (.anewarray 29, 3) := by decide +kernel
theorem dX4_init_53 : decode cX4_init 53 = .ok (.putfield 31, 3) := by decide +kernel
theorem dX4_init_56 : decode cX4_init 56 = .ok (.iconst 0, 1) := by decide +kernel
theorem dX4_init_57 : decode cX4_init 57 = .ok (.istore_n 1, 1) := by decide +kernel
theorem dX4_init_58 : decode cX4_init 58 = .ok (.iload_n 1, 1) := by decide +kernel
theorem dX4_init_59 : decode cX4_init 59 = .ok (.iconst 4, 1) := by decide +kernel
theorem dX4_init_60 : decode cX4_init 60 = .ok (.if_icmp .ge 22, 3) := by decide +kernel
theorem dX4_init_63 : decode cX4_init 63 = .ok (.aload_n 0, 1) := by decide +kernel
theorem dX4_init_64 : decode cX4_init 64 = .ok (.getfield 31, 3) := by decide +kernel
theorem dX4_init_67 : decode cX4_init 67 = .ok (.iload_n 1, 1) := by decide +kernel
theorem dX4_init_68 : decode cX4_init 68 = .ok (.new 29, 3) := by decide +kernel
theorem dX4_init_71 : decode cX4_init 71 = .ok (.dup, 1) := by decide +kernel
theorem dX4_init_72 : decode cX4_init 72 = .ok (.invokespecial 35, 3) := by decide +kernel
theorem dX4_init_75 : decode cX4_init 75 = .ok (.aastore, 1) := by decide +kernel
theorem dX4_init_76 : decode cX4_init 76 = .ok (.iinc 1 1, 3) := by decide +kernel
theorem dX4_init_79 : decode cX4_init 79 = .ok (.goto (-21), 3) := by decide +kernel
theorem dX4_init_82 : decode cX4_init 82 = .ok (.aload_n 0, 1) := by decide +kernel
theorem dX4_init_83 : decode cX4_init 83 = .ok (.bipush 7, 2) := by decide +kernel
theorem dX4_init_85 : decode cX4_init 85 = .ok (.newarray .int, 2) := by decide +kernel
theorem dX4_init_87 : decode cX4_init 87 = .ok (.putfield 36, 3) := by decide +kernel
theorem dX4_init_90 : decode cX4_init 90 = .ok (.aload_n 0, 1) := by decide +kernel
theorem dX4_init_91 : decode cX4_init 91 = .ok (.iconst 0, 1) := by decide +kernel
theorem dX4_init_92 : decode cX4_init 92 = .ok (.putfield 40, 3) := by decide +kernel
theorem dX4_init_95 : decode cX4_init 95 = .ok (.return_, 1) := by decide +kernel
theorem dX5_init_0 : decode cX5_init 0 = .ok (.aload_n 0, 1) := by decide +kernel
theorem dX5_init_1 : decode cX5_init 1 = .ok (.invokespecial 1, 3) := by decide +kernel
theorem dX5_init_4 : decode cX5_init 4 = .ok (.aload_n 0, 1) := by decide +kernel
theorem dX5_init_5 : decode cX5_init 5 = .ok (.bipush 61, 2) := by decide +kernel
theorem dX5_init_7 : decode cX5_init 7 = .ok (.newarray .int, 2) := by decide +kernel
theorem dX5_init_9 : decode cX5_init 9 = .ok (.putfield 9, 3) := by decide +kernel
theorem dX5_init_12 : decode cX5_init 12 = .ok (.aload_n 0, 1) := by decide +kernel
theorem dX5_init_13 : decode cX5_init 13 = .ok (.bipush 61, 2) := by decide +kernel
theorem dX5_init_15 : decode cX5_init 15 = .ok (.newarray .int, 2) := by decide +kernel
theorem dX5_init_17 : decode cX5_init 17 = .ok (.putfield 13, 3) := by decide +kernel
theorem dX5_init_20 : decode cX5_init 20 = .ok (.aload_n 0, 1) := by decide +kernel
theorem dX5_init_21 : decode cX5_init 21 = .ok (.bipush 61, 2) := by decide +kernel
theorem dX5_init_23 : decode cX5_init 23 = .ok (.newarray .int, 2) := by decide +kernel
theorem dX5_init_25 : decode cX5_init 25 = .ok (.putfield 16, 3) := by decide +kernel
theorem dX5_init_28 : decode cX5_init 28 = .ok (.aload_n 0, 1) := by decide +kernel
theorem dX5_init_29 : decode cX5_init 29 = .ok (.bipush 8, 2) := by decide +kernel
theorem dX5_init_31 : decode cX5_init 31 = .ok (.newarray .int, 2) := by decide +kernel
theorem dX5_init_33 : decode cX5_init 33 = .ok (.putfield 19, 3) := by decide +kernel
theorem dX5_init_36 : decode cX5_init 36 = .ok (.aload_n 0, 1) := by decide +kernel
theorem dX5_init_37 : decode cX5_init 37 = .ok (.bipush 8, 2) := by decide +kernel
theorem dX5_init_39 : decode cX5_init 39 = .ok (.newarray .int, 2) := by decide +kernel
theorem dX5_init_41 : decode cX5_init 41 = .ok (.putfield 22, 3) := by decide +kernel
theorem dX5_init_44 : decode cX5_init 44 = .ok (.aload_n 0, 1) := by decide +kernel
theorem dX5_init_45 : decode cX5_init 45 = .ok (.bipush 8, 2) := by decide +kernel
theorem dX5_init_47 : decode cX5_init 47 = .ok (.newarray .int, 2) := by decide +kernel
theorem dX5_init_49 : decode cX5_init 49 = .ok (.putfield 25, 3) := by decide +kernel
theorem dX5_init_52 : decode cX5_init 52 = .ok (.aload_n 0, 1) := by decide +kernel
theorem dX5_init_53 : decode cX5_init 53 = .ok (.iconst (-1), 1) := by decide +kernel
theorem dX5_init_54 : decode cX5_init 54 = .ok (.putfield 28, 3) := by decide +kernel
theorem dX5_init_57 : decode cX5_init 57 = .ok (.aload_n 0, 1) := by decide +kernel
theorem dX5_init_58 : decode cX5_init 58 = .ok (.bipush 120, 2) := by decide +kernel
theorem dX5_init_60 : decode cX5_init 60 = .ok (.newarray .int, 2) := by decide +kernel
theorem dX5_init_62 : decode cX5_init 62 = .ok (.putfield 32, 3) := by decide +kernel
theorem dX5_init_65 : decode cX5_init 65 = .ok (.aload_n 0, 1) := by decide +kernel
theorem dX5_init_66 : decode cX5_init 66 = .ok (.bipush 7, 2) := by decide +kernel
theorem dX5_init_68 : decode cX5_init 68 = .ok (.anewarray 35, 3) := by decide +kernel
theorem dX5_init_71 : decode cX5_init 71 = .ok (.dup, 1) := by decide +kernel
theorem dX5_init_72 : decode cX5_init 72 = .ok (.iconst 0, 1) := by decide +kernel
theorem dX5_init_73 : decode cX5_init 73 = .ok (.ldc 37, 2) := by decide +kernel
theorem dX5_init_75 : decode cX5_init 75 = .ok (.aastore, 1) := by decide +kernel
theorem dX5_init_76 : decode cX5_init 76 = .ok (.dup, 1) := by decide +kernel
theorem dX5_init_77 : decode cX5_init 77 = .ok (.iconst 1, 1) := by decide +kernel
theorem dX5_init_78 : decode cX5_init 78 = .ok (.ldc 39, 2) := by decide +kernel
theorem dX5_init_80 : decode cX5_init 80 = .ok (.aastore, 1) := by decide +kernel
theorem dX5_init_81 : decode cX5_init 81 = .ok (.dup, 1) := by decide +kernel
theorem dX5_init_82 : decode cX5_init 82 = .ok (.iconst 2, 1) := by decide +kernel
theorem dX5_init_83 : decode cX5_init 83 = .ok (.ldc 41, 2) := by decide +kernel
theorem dX5_init_85 : decode cX5_init 85 = .ok (.aastore, 1) := by decide +kernel
theorem dX5_init_86 : decode cX5_init 86 = .ok (.dup, 1) := by decide +kernel
theorem dX5_init_87 : decode cX5_init 87 = .ok (.iconst 3, 1) := by decide +kernel
theorem dX5_init_88 : decode cX5_init 88 = .ok (.ldc 43, 2) := by decide +kernel
theorem dX5_init_90 : decode cX5_init 90 = .ok (.aastore, 1) := by decide +kernel
theorem dX5_init_91 : decode cX5_init 91 = .ok (.dup, 1) := by decide +kernel
theorem dX5_init_92 : decode cX5_init 92 = .ok (.iconst 4, 1) := by decide +kernel
theorem dX5_init_93 : decode cX5_init 93 = .ok (.ldc 45, 2) := by decide +kernel
theorem dX5_init_95 : decode cX5_init 95 = .ok (.aastore, 1) := by decide +kernel
theorem dX5_init_96 : decode cX5_init 96 = .ok (.dup, 1) := by decide +kernel
theorem dX5_init_97 : decode cX5_init 97 = .ok (.iconst 5, 1) := by decide +kernel
theorem dX5_init_98 : decode cX5_init 98 = .ok (.ldc 47, 2) := by decide +kernel
theorem dX5_init_100 : decode cX5_init 100 = .ok (.aastore, 1) := by decide +kernel
theorem dX5_init_101 : decode cX5_init 101 = .ok (.dup, 1) := by decide +kernel
theorem dX5_init_102 : decode cX5_init 102 = .ok (.bipush 6, 2) := by decide +kernel
theorem dX5_init_104 : decode cX5_init 104 = .ok (.ldc 49, 2) := by decide +kernel
theorem dX5_init_106 : decode cX5_init 106 = .ok (.aastore, 1) := by decide +kernel
theorem dX5_init_107 : decode cX5_init 107 = .ok (.putfield 51, 3) := by decide +kernel
theorem dX5_init_110 : decode cX5_init 110 = .ok (.aload_n 0, 1) := by decide +kernel
theorem dX5_init_111 : decode cX5_init 111 = .ok (.sipush 480, 3) := by decide +kernel
theorem dX5_init_114 : decode cX5_init 114 = .ok (.newarray .int, 2) := by decide +kernel
theorem dX5_init_116 : decode cX5_init 116 = .ok (.putfield 55, 3) := by decide +kernel
theorem dX5_init_119 : decode cX5_init 119 = .ok (.aload_n 0, 1) := by decide +kernel
theorem dX5_init_120 : decode cX5_init 120 = .ok (.iconst 4, 1) := by decide +kernel
theorem dX5_init_121 : decode cX5_init 121 = .ok (.newarray .int, 2) := by decide +kernel
theorem dX5_init_123 : decode cX5_init 123 = .ok (.putfield 58, 3) := by decide +kernel
theorem dX5_init_126 : decode cX5_init 126 = .ok (.aload_n 0, 1) := by decide +kernel
theorem dX5_init_127 : decode cX5_init 127 = .ok (.iconst 4, 1) := by decide +kernel
theorem dX5_init_128 : decode cX5_init 128 = .ok (.newarray .int, 2) := by decide +kernel
theorem dX5_init_130 : decode cX5_init 130 = .ok (.putfield 61, 3) := by decide +kernel
theorem dX5_init_133 : decode cX5_init 133 = .ok (.aload_n 0, 1) := by decide +kernel
theorem dX5_init_134 : decode cX5_init 134 = .ok (.sipush 160, 3) := by decide +kernel
theorem dX5_init_137 : decode cX5_init 137 = .ok (.newarray .int, 2) := by decide +kernel
theorem dX5_init_139 : decode cX5_init 139 = .ok (.putfield 64, 3) := by decide +kernel
theorem dX5_init_142 : decode cX5_init 142 = .ok (.aload_n 0, 1) := by decide +kernel
theorem dX5_init_143 : decode cX5_init 143 = .ok (.bipush 40, 2) := by decide +kernel
theorem dX5_init_145 : decode cX5_init 145 = .ok (.newarray .int, 2) := by decide +kernel
theorem dX5_init_147 : decode cX5_init 147 = .ok (.putfield 67, 3) := by decide +kernel
theorem dX5_init_150 : decode cX5_init 150 = .ok (.aload_n 0, 1) := by decide +kernel
theorem dX5_init_151 : decode cX5_init 151 = .ok (.getfield 9, 3) := by decide +kernel
theorem dX5_init_154 : decode cX5_init 154 = .ok (.iconst 2, 1) := by decide +kernel
theorem dX5_init_155 : decode cX5_init 155 = .ok (.iconst 1, 1) := by decide +kernel
theorem dX5_init_156 : decode cX5_init 156 = .ok (.iastore, 1) := by decide +kernel
theorem dX5_init_157 : decode cX5_init 157 = .ok (.iconst 0, 1) := by decide +kernel
theorem dX5_init_158 : decode cX5_init 158 = .ok (.istore_n 1, 1) := by decide +kernel
theorem dX5_init_159 : decode cX5_init 159 = .ok (.iload_n 1, 1) := by decide +kernel
theorem dX5_init_160 : decode cX5_init 160 = .ok (.bipush 8, 2) := by decide +kernel
theorem dX5_init_162 : decode cX5_init 162 = .ok (.if_icmp .ge 20, 3) := by decide +kernel
theorem dX5_init_165 : decode cX5_init 165 = .ok (.aload_n 0, 1) := by decide +kernel
theorem dX5_init_166 : decode cX5_init 166 = .ok (.getfield 9, 3) := by decide +kernel
theorem dX5_init_169 : decode cX5_init 169 = .ok (.bipush 13, 2) := by decide +kernel
theorem dX5_init_171 : decode cX5_init 171 = .ok (.iload_n 1, 1) := by decide +kernel
theorem dX5_init_172 : decode cX5_init 172 = .ok (.iadd, 1) := by decide +kernel
theorem dX5_init_173 : decode cX5_init 173 = .ok (.bipush 10, 2) := by decide +kernel
theorem dX5_init_175 : decode cX5_init 175 = .ok (.iastore, 1) := by decide +kernel
theorem dX5_init_176 : decode cX5_init 176 = .ok (.iinc 1 1, 3) := by decide +kernel
theorem dX5_init_179 : decode cX5_init 179 = .ok (.goto (-20), 3) := by decide +kernel
theorem dX5_init_182 : decode cX5_init 182 = .ok (.iconst 0, 1) := by decide +kernel
theorem dX5_init_183 : decode cX5_init 183 = .ok (.istore_n 1, 1) := by decide +kernel
theorem dX5_init_184 : decode cX5_init 184 = .ok (.iload_n 1, 1) := by decide +kernel
theorem dX5_init_185 : decode cX5_init 185 = .ok (.bipush 10, 2) := by decide +kernel
theorem dX5_init_187 : decode cX5_init 187 = .ok (.if_icmp .ge 18, 3) := by decide +kernel
theorem dX5_init_190 : decode cX5_init 190 = .ok (.aload_n 0, 1) := by decide +kernel
theorem dX5_init_191 : decode cX5_init 191 = .ok (.getfield 9, 3) := by decide +kernel
theorem dX5_init_194 : decode cX5_init 194 = .ok (.iconst 3, 1) := by decide +kernel
theorem dX5_init_195 : decode cX5_init 195 = .ok (.iload_n 1, 1) := by decide +kernel
theorem dX5_init_196 : decode cX5_init 196 = .ok (.iadd, 1) := by decide +kernel
theorem dX5_init_197 : decode cX5_init 197 = .ok (.iconst (-1), 1) := by decide +kernel
theorem dX5_init_198 : decode cX5_init 198 = .ok (.iastore, 1) := by decide +kernel
theorem dX5_init_199 : decode cX5_init 199 = .ok (.iinc 1 1, 3) := by decide +kernel
theorem dX5_init_202 : decode cX5_init 202 = .ok (.goto (-18), 3) := by decide +kernel
theorem dX5_init_205 : decode cX5_init 205 = .ok (.return_, 1) := by decide +kernel
theorem dJ7_fill_53178_0 : decode cJ7_fill_53178 0 = .ok (.iconst 0, 1) := by decide +kernel
theorem dJ7_fill_53178_1 : decode cJ7_fill_53178 1 = .ok (.istore_n 2, 1) := by decide +kernel
theorem dJ7_fill_53178_2 : decode cJ7_fill_53178 2 = .ok (.aload_n 0, 1) := by decide +kernel
theorem dJ7_fill_53178_3 : decode cJ7_fill_53178 3 = .ok (.arraylength, 1) := by decide +kernel
theorem dJ7_fill_53178_4 : decode cJ7_fill_53178 4 = .ok (.istore_n 3, 1) := by decide +kernel
theorem dJ7_fill_53178_5 : decode cJ7_fill_53178 5 = .ok (.iload_n 2, 1) := by decide +kernel
theorem dJ7_fill_53178_6 : decode cJ7_fill_53178 6 = .ok (.iload_n 3, 1) := by decide +kernel
theorem dJ7_fill_53178_7 : decode cJ7_fill_53178 7 = .ok (.if_icmp .ge 13, 3) := by decide +kernel
theorem dJ7_fill_53178_10 : decode cJ7_fill_53178 10 = .ok (.aload_n 0, 1) := by decide +kernel
theorem dJ7_fill_53178_11 : decode cJ7_fill_53178 11 = .ok (.iload_n 2, 1) := by decide +kernel
theorem dJ7_fill_53178_12 : decode cJ7_fill_53178 12 = .ok (.iload_n 1, 1) := by decide +kernel
theorem dJ7_fill_53178_13 : decode cJ7_fill_53178 13 = .ok (.iastore, 1) := by decide +kernel
theorem dJ7_fill_53178_14 : decode cJ7_fill_53178 14 = .ok (.iinc 2 1, 3) := by decide +kernel
theorem dJ7_fill_53178_17 : decode cJ7_fill_53178 17 = .ok (.goto (-12), 3) := by decide +kernel
theorem dJ7_fill_53178_20 : decode cJ7_fill_53178 20 = .ok (.return_, 1) := by decide +kernel
theorem dL_law_0 : decode cL_law 0 = .ok (.new 7, 3) := by decide +kernel
theorem dL_law_3 : decode cL_law 3 = .ok (.dup, 1) := by decide +kernel
theorem dL_law_4 : decode cL_law 4 = .ok (.invokespecial 9, 3) := by decide +kernel
theorem dL_law_7 : decode cL_law 7 = .ok (.astore_n 1, 1) := by decide +kernel
theorem dL_law_8 : decode cL_law 8 = .ok (.new 10, 3) := by decide +kernel
theorem dL_law_11 : decode cL_law 11 = .ok (.dup, 1) := by decide +kernel
theorem dL_law_12 : decode cL_law 12 = .ok (.invokespecial 12, 3) := by decide +kernel
theorem dL_law_15 : decode cL_law 15 = .ok (.astore_n 2, 1) := by decide +kernel
theorem dL_law_16 : decode cL_law 16 = .ok (.iconst 0, 1) := by decide +kernel
theorem dL_law_17 : decode cL_law 17 = .ok (.istore_n 3, 1) := by decide +kernel
set_option maxRecDepth 100000 in
theorem icw_8 : wsL_law[8]? = some (.code yX4_init cX4_init 2 none) := by decide +kernel
set_option maxRecDepth 100000 in
theorem icw_9 : wsL_law[9]? = some (.methodLink RX4 3 objectInit) := by decide +kernel
set_option maxRecDepth 100000 in
theorem icw_10 : wsL_law[10]? = some (.instanceMethod objectInit) := by decide +kernel
set_option maxRecDepth 100000 in
theorem icw_11 : wsL_law[11]? = some (.code objectInit ⟨#[0xb1]⟩ 1 none) := by decide +kernel
set_option maxRecDepth 100000 in
theorem icw_12 : wsL_law[12]? = some (.classLink RX4 9 RX3) := by decide +kernel
set_option maxRecDepth 100000 in
theorem icw_13 : wsL_law[13]? = some (.instantiable RX3 13) := by decide +kernel
set_option maxRecDepth 100000 in
theorem icw_14 : wsL_law[14]? = some (.initialized RX3) := by decide +kernel
set_option maxRecDepth 100000 in
theorem icw_15 : wsL_law[15]? = some (.fieldLink RX4 12 "TwoTuesdays" "town" "LTwoTuesdays$Town;") := by decide +kernel
set_option maxRecDepth 100000 in
theorem icw_16 : wsL_law[16]? = some (.fieldLink RX4 16 "TwoTuesdays" "kept" "LTwoTuesdays$Town;") := by decide +kernel
set_option maxRecDepth 100000 in
theorem icw_17 : wsL_law[17]? = some (.fieldLink RX4 19 "TwoTuesdays" "trial" "LTwoTuesdays$Town;") := by decide +kernel
set_option maxRecDepth 100000 in
theorem icw_18 : wsL_law[18]? = some (.classLink RX4 22 RX2) := by decide +kernel
set_option maxRecDepth 100000 in
theorem icw_19 : wsL_law[19]? = some (.instantiable RX2 4) := by decide +kernel
set_option maxRecDepth 100000 in
theorem icw_20 : wsL_law[20]? = some (.initialized RX2) := by decide +kernel
set_option maxRecDepth 100000 in
theorem icw_21 : wsL_law[21]? = some (.fieldLink RX4 25 "TwoTuesdays" "reader" "LTwoTuesdays$TextReader;") := by decide +kernel
set_option maxRecDepth 100000 in
theorem icw_22 : wsL_law[22]? = some (.classLink RX4 29 RX0) := by decide +kernel
set_option maxRecDepth 100000 in
theorem icw_23 : wsL_law[23]? = some (.fieldLink RX4 31 "TwoTuesdays" "sheets" "[LTwoTuesdays$Sheet;") := by decide +kernel
set_option maxRecDepth 100000 in
theorem icw_24 : wsL_law[24]? = some (.instantiable RX0 3) := by decide +kernel
set_option maxRecDepth 100000 in
theorem icw_25 : wsL_law[25]? = some (.initialized RX0) := by decide +kernel
set_option maxRecDepth 100000 in
theorem icw_26 : wsL_law[26]? = some (.arrayClass .int) := by decide +kernel
set_option maxRecDepth 100000 in
theorem icw_27 : wsL_law[27]? = some (.fieldLink RX4 36 "TwoTuesdays" "told" "[I") := by decide +kernel
set_option maxRecDepth 100000 in
theorem icw_28 : wsL_law[28]? = some (.fieldLink RX4 40 "TwoTuesdays" "isKept" "Z") := by decide +kernel
set_option maxRecDepth 100000 in
theorem icw_29 : wsL_law[29]? = some (.methodLink RX4 11 yX3_init) := by decide +kernel
set_option maxRecDepth 100000 in
theorem icw_30 : wsL_law[30]? = some (.instanceMethod yX3_init) := by decide +kernel
set_option maxRecDepth 100000 in
theorem icw_31 : wsL_law[31]? = some (.code yX3_init cX3_init 1 none) := by decide +kernel
set_option maxRecDepth 100000 in
theorem icw_32 : wsL_law[32]? = some (.methodLink RX3 3 objectInit) := by decide +kernel
set_option maxRecDepth 100000 in
theorem icw_33 : wsL_law[33]? = some (.fieldLink RX3 9 "TwoTuesdays$Town" "prizeAt" "[I") := by decide +kernel
set_option maxRecDepth 100000 in
theorem icw_34 : wsL_law[34]? = some (.fieldLink RX3 15 "TwoTuesdays$Town" "kindOf" "[I") := by decide +kernel
set_option maxRecDepth 100000 in
theorem icw_35 : wsL_law[35]? = some (.fieldLink RX3 18 "TwoTuesdays$Town" "planOf" "[I") := by decide +kernel
set_option maxRecDepth 100000 in
theorem icw_36 : wsL_law[36]? = some (.fieldLink RX3 21 "TwoTuesdays$Town" "looksOf" "[I") := by decide +kernel
set_option maxRecDepth 100000 in
theorem icw_37 : wsL_law[37]? = some (.fieldLink RX3 24 "TwoTuesdays$Town" "loveOf" "[I") := by decide +kernel
set_option maxRecDepth 100000 in
theorem icw_38 : wsL_law[38]? = some (.fieldLink RX3 27 "TwoTuesdays$Town" "goodsOf" "[I") := by decide +kernel
set_option maxRecDepth 100000 in
theorem icw_39 : wsL_law[39]? = some (.fieldLink RX3 30 "TwoTuesdays$Town" "heldAt" "[I") := by decide +kernel
set_option maxRecDepth 100000 in
theorem icw_40 : wsL_law[40]? = some (.fieldLink RX3 33 "TwoTuesdays$Town" "plannedAt" "[I") := by decide +kernel
set_option maxRecDepth 100000 in
theorem icw_41 : wsL_law[41]? = some (.fieldLink RX3 36 "TwoTuesdays$Town" "choiceOf" "[I") := by decide +kernel
set_option maxRecDepth 100000 in
theorem icw_42 : wsL_law[42]? = some (.fieldLink RX3 39 "TwoTuesdays$Town" "chosenAt" "[I") := by decide +kernel
set_option maxRecDepth 100000 in
theorem icw_43 : wsL_law[43]? = some (.fieldLink RX3 48 "TwoTuesdays$Town" "people" "I") := by decide +kernel
set_option maxRecDepth 100000 in
theorem icw_44 : wsL_law[44]? = some (.fieldLink RX3 52 "TwoTuesdays$Town" "tuesday" "I") := by decide +kernel
set_option maxRecDepth 100000 in
theorem icw_45 : wsL_law[45]? = some (.fieldLink RX3 55 "TwoTuesdays$Town" "z" "I") := by decide +kernel
set_option maxRecDepth 100000 in
theorem icw_46 : wsL_law[46]? = some (.methodLink RX3 42 yJ7_fill_53178) := by decide +kernel
set_option maxRecDepth 100000 in
theorem icw_47 : wsL_law[47]? = some (.static yJ7_fill_53178) := by decide +kernel
set_option maxRecDepth 100000 in
theorem icw_48 : wsL_law[48]? = some (.initialized RJ7) := by decide +kernel
set_option maxRecDepth 100000 in
theorem icw_49 : wsL_law[49]? = some (.code yJ7_fill_53178 cJ7_fill_53178 4 none) := by decide +kernel
set_option maxRecDepth 100000 in
theorem icw_50 : wsL_law[50]? = some (.instanceMethod yX2_init) := by decide +kernel
set_option maxRecDepth 100000 in
theorem icw_51 : wsL_law[51]? = some (.code yX2_init cX2_init 1 none) := by decide +kernel
set_option maxRecDepth 100000 in
theorem icw_52 : wsL_law[52]? = some (.methodLink RX2 3 objectInit) := by decide +kernel
set_option maxRecDepth 100000 in
theorem icw_53 : wsL_law[53]? = some (.classLink RX2 9 RX1) := by decide +kernel
set_option maxRecDepth 100000 in
theorem icw_54 : wsL_law[54]? = some (.instantiable RX1 6) := by decide +kernel
set_option maxRecDepth 100000 in
theorem icw_55 : wsL_law[55]? = some (.initialized RX1) := by decide +kernel
set_option maxRecDepth 100000 in
theorem icw_56 : wsL_law[56]? = some (.fieldLink RX2 12 "TwoTuesdays$TextReader" "tape" "LTwoTuesdays$Tape;") := by decide +kernel
set_option maxRecDepth 100000 in
theorem icw_57 : wsL_law[57]? = some (.classLink RX2 18 RX3) := by decide +kernel
set_option maxRecDepth 100000 in
theorem icw_58 : wsL_law[58]? = some (.fieldLink RX2 21 "TwoTuesdays$TextReader" "draft" "LTwoTuesdays$Town;") := by decide +kernel
set_option maxRecDepth 100000 in
theorem icw_59 : wsL_law[59]? = some (.instanceMethod yX1_init) := by decide +kernel
set_option maxRecDepth 100000 in
theorem icw_60 : wsL_law[60]? = some (.code yX1_init cX1_init 1 none) := by decide +kernel
set_option maxRecDepth 100000 in
theorem icw_61 : wsL_law[61]? = some (.methodLink RX1 3 objectInit) := by decide +kernel
set_option maxRecDepth 100000 in
theorem icw_62 : wsL_law[62]? = some (.fieldLink RX1 9 "TwoTuesdays$Tape" "bytes" "[I") := by decide +kernel
set_option maxRecDepth 100000 in
theorem icw_63 : wsL_law[63]? = some (.methodLink RX2 20 yX3_init) := by decide +kernel
set_option maxRecDepth 100000 in
theorem icw_64 : wsL_law[64]? = some (.instanceMethod yX0_init) := by decide +kernel
set_option maxRecDepth 100000 in
theorem icw_65 : wsL_law[65]? = some (.code yX0_init cX0_init 1 none) := by decide +kernel
set_option maxRecDepth 100000 in
theorem icw_66 : wsL_law[66]? = some (.methodLink RX0 3 objectInit) := by decide +kernel
set_option maxRecDepth 100000 in
theorem icw_67 : wsL_law[67]? = some (.fieldLink RX0 9 "TwoTuesdays$Sheet" "numbers" "[I") := by decide +kernel
set_option maxRecDepth 100000 in
theorem icw_70 : wsL_law[70]? = some (.code yX5_init cX5_init 2 none) := by decide +kernel
set_option maxRecDepth 100000 in
theorem icw_71 : wsL_law[71]? = some (.methodLink RX5 1 objectInit) := by decide +kernel
set_option maxRecDepth 100000 in
theorem icw_72 : wsL_law[72]? = some (.fieldLink RX5 9 "TwoTuesdaysModel" "now" "[I") := by decide +kernel
set_option maxRecDepth 100000 in
theorem icw_73 : wsL_law[73]? = some (.fieldLink RX5 13 "TwoTuesdaysModel" "kept" "[I") := by decide +kernel
set_option maxRecDepth 100000 in
theorem icw_74 : wsL_law[74]? = some (.fieldLink RX5 16 "TwoTuesdaysModel" "aside" "[I") := by decide +kernel
set_option maxRecDepth 100000 in
theorem icw_75 : wsL_law[75]? = some (.fieldLink RX5 19 "TwoTuesdaysModel" "found" "[I") := by decide +kernel
set_option maxRecDepth 100000 in
theorem icw_76 : wsL_law[76]? = some (.fieldLink RX5 22 "TwoTuesdaysModel" "choices" "[I") := by decide +kernel
set_option maxRecDepth 100000 in
theorem icw_77 : wsL_law[77]? = some (.fieldLink RX5 25 "TwoTuesdaysModel" "gets" "[I") := by decide +kernel
set_option maxRecDepth 100000 in
theorem icw_78 : wsL_law[78]? = some (.fieldLink RX5 28 "TwoTuesdaysModel" "away" "I") := by decide +kernel
set_option maxRecDepth 100000 in
theorem icw_79 : wsL_law[79]? = some (.fieldLink RX5 32 "TwoTuesdaysModel" "tape" "[I") := by decide +kernel
set_option maxRecDepth 100000 in
theorem icw_80 : wsL_law[80]? = some (.classLink RX5 35 RJ0) := by decide +kernel
set_option maxRecDepth 100000 in
theorem icw_81 : wsL_law[81]? = some (.fieldLink RX5 51 "TwoTuesdaysModel" "kindNames" "[Ljava/lang/String;") := by decide +kernel
set_option maxRecDepth 100000 in
theorem icw_82 : wsL_law[82]? = some (.fieldLink RX5 55 "TwoTuesdaysModel" "items" "[I") := by decide +kernel
set_option maxRecDepth 100000 in
theorem icw_83 : wsL_law[83]? = some (.fieldLink RX5 58 "TwoTuesdaysModel" "widths" "[I") := by decide +kernel
set_option maxRecDepth 100000 in
theorem icw_84 : wsL_law[84]? = some (.fieldLink RX5 61 "TwoTuesdaysModel" "sizes" "[I") := by decide +kernel
set_option maxRecDepth 100000 in
theorem icw_85 : wsL_law[85]? = some (.fieldLink RX5 64 "TwoTuesdaysModel" "numbers" "[I") := by decide +kernel
set_option maxRecDepth 100000 in
theorem icw_86 : wsL_law[86]? = some (.fieldLink RX5 67 "TwoTuesdaysModel" "moved" "[I") := by decide +kernel
/-! ===== the constructors: rows, and the filling of an array ===== -/
abbrev ic_i (cI : ClassId) (n : Nat) : va_E := .inl (cI, n, .inl (fun _ => 0))
abbrev ic_g (cI : ClassId) (n : Nat) (f : Nat → Int32) : va_E := .inl (cI, n, .inl f)
abbrev ic_f (cI : ClassId) (n : Nat) (x : Int32) : va_E := .inl (cI, n, .inl (fun j => if j < n then x else 0))
abbrev ic_q (cR : ClassId) (n : Nat) (f : Nat → Option Nat) : va_E := .inl (cR, n, .inr (.inr (.inr (.inr f))))
def ic_ws (y : MethodName) (cc : ByteArray) (mx : Nat) : List Jvm.Cond := Jvm.Cond.code y cc mx none :: wsL_law
theorem ic_u0 : ∀ w ∈ u_ws RX0 TX0 3, w ∈ wsL_law := am_uws 0 (by decide)
theorem ic_u1 : ∀ w ∈ u_ws RX1 TX1 6, w ∈ wsL_law := am_uws 1 (by decide)
theorem ic_u2 : ∀ w ∈ u_ws RX2 TX2 4, w ∈ wsL_law := am_uws 2 (by decide)
theorem ic_u3 : ∀ w ∈ u_ws RX3 TX3 13, w ∈ wsL_law := am_uws 3 (by decide)
theorem ic_u4 : ∀ w ∈ u_ws RX4 TX4 7, w ∈ wsL_law := am_uws 4 (by decide)
theorem ic_u5 : ∀ w ∈ u_ws RX5 TX5 23, w ∈ wsL_law := am_uws 5 (by decide)
theorem ic_fs0 : ∀ j, j < 3 → defaultValue (tyX0 j) = vp_V [.null, .int 0, .int 0] j := by decide +kernel
theorem ic_fs1 : ∀ j, j < 6 → defaultValue (tyX1 j) = vp_V [.null, .int 0, .int 0, .int 0, .int 0, .int 0] j := by decide +kernel
theorem ic_fs2 : ∀ j, j < 4 → defaultValue (tyX2 j) = vp_V [.null, .null, .int 0, .int 0] j := by decide +kernel
theorem ic_fs3 : ∀ j, j < 13 → defaultValue (tyX3 j) = vp_V [.null, .null, .null, .null, .null, .null, .null, .int 0, .int 0, .int 0, .null, .null, .null] j := by decide +kernel
theorem ic_fs4 : ∀ j, j < 7 → defaultValue (tyX4 j) = vp_V [.null, .null, .null, .null, .null, .null, .int 0] j := by decide +kernel
theorem ic_fs5 : ∀ j, j < 23 → defaultValue (tyX5 j) = vp_V [.null, .null, .null, .int 0, .null, .null, .null, .int 0, .null, .int 0, .int 0, .int 0, .int 0, .int 0, .int 0, .null, .null, .int 0, .int 0, .null, .null, .null, .null] j := by decide +kernel
set_option maxRecDepth 100000 in
theorem ic_in0 : ∀ w ∈ ic_ws yX0_init cX0_init 1, w ∈ wsL_law := List.forall_mem_cons.mpr ⟨List.mem_of_getElem? icw_65, fun _ h => h⟩
theorem ic_in1 : ∀ w ∈ ic_ws yX1_init cX1_init 1, w ∈ wsL_law := List.forall_mem_cons.mpr ⟨List.mem_of_getElem? icw_60, fun _ h => h⟩
theorem ic_in2 : ∀ w ∈ ic_ws yX2_init cX2_init 1, w ∈ wsL_law := List.forall_mem_cons.mpr ⟨List.mem_of_getElem? icw_51, fun _ h => h⟩
theorem ic_in3 : ∀ w ∈ ic_ws yX3_init cX3_init 1, w ∈ wsL_law := List.forall_mem_cons.mpr ⟨List.mem_of_getElem? icw_31, fun _ h => h⟩
theorem ic_in4 : ∀ w ∈ ic_ws yX4_init cX4_init 2, w ∈ wsL_law := List.forall_mem_cons.mpr ⟨List.mem_of_getElem? icw_8, fun _ h => h⟩
theorem ic_in5 : ∀ w ∈ ic_ws yX5_init cX5_init 2, w ∈ wsL_law := List.forall_mem_cons.mpr ⟨List.mem_of_getElem? icw_70, fun _ h => h⟩
set_option maxRecDepth 100000 in
theorem ic_inF : ∀ w ∈ ic_ws yJ7_fill_53178 cJ7_fill_53178 4, w ∈ wsL_law := List.forall_mem_cons.mpr ⟨List.mem_of_getElem? icw_49, fun _ h => h⟩
theorem ic_inS : ∀ w ∈ va_wsS RX3 42 yJ7_fill_53178 (ic_ws yJ7_fill_53178 cJ7_fill_53178 4), w ∈ wsL_law := List.forall_mem_cons.mpr ⟨List.mem_of_getElem? icw_46, List.forall_mem_cons.mpr ⟨List.mem_of_getElem? icw_47, List.forall_mem_cons.mpr ⟨List.mem_of_getElem? icw_48, ic_inF⟩⟩⟩
/-- what the constructors need of the start -/
def ic_E (U : State) : Prop := tt_N U ∧ va_AO RX0 U ∧ va_AO RJ0 U
theorem ic_E.warm {s U : State} (hW : s.WarmedH U.vm) (h : ic_E s) : ic_E U := ⟨fun q hq => va_Nw.warmM hW (h.1 q hq), va_AO.moved hW.alike h.2.1, va_AO.moved hW.alike h.2.2⟩
theorem ic_E.same {u U : State} (hv : U.vm = u.vm) (h : ic_E u) : ic_E U :=
  have hA : u.vm.Alike U.vm := by rw [hv]; exact Vm.Alike.refl u.vm
  ⟨fun q hq => va_Nw.same rfl hv.symm (h.1 q hq), va_AO.moved hA h.2.1, va_AO.moved hA h.2.2⟩
def ic_pre (D : va_G) (cI cR cS : ClassId) (ws : va_W) (sz : Nat) : State → Prop := fun U => U.heap.size = sz ∧ va_P D vwCl ws U.heap ∧ va_K D vwCl (am_ty cI cR cS) U ∧ va_D (fun _ => True) ws ∧ ic_E U
abbrev ic_Q (D : va_G) (w1 : (Nat → Nat) → va_W) (A : Nat → Prop) : Array Value → State → Outcome → State → Prop := va_Qv (fun _ : Nat → Nat => True) (fun u t => va_P D vwCl (w1 u) t.heap ∧ va_D A (w1 u)) A
theorem ic_blind {D : va_G} {cI cR cS : ClassId} {ws : va_W} {sz : Nat} {av : List Value} : FrameBlind (va_Pc av (ic_pre D cI cR cS ws sz)) :=
  fun b U g mk q => ⟨q.1, q.2.1, q.2.2.1, va_K.moved (u := U) (U := U.calling g mk b) (Vm.Alike.refl U.vm) q.2.2.2.1, q.2.2.2.2.1, ic_E.same (u := U) (U := U.calling g mk b) rfl q.2.2.2.2.2⟩
section ICa
variable {p : Program} {l : Launch} {e : Env} {R : Room} {s : State} {m : MethodId} {args : Array Value} {below : List Frame} {meth : Method} {c : Code} {H : Heap} {locs : List Loc} {cells slots : Nat} {Q : State → Prop}
variable {cc : ByteArray} {pc : Nat} {ls : Array Slot} {rest : List Value} {D : va_G} {ws : va_W} {A : Nat → Prop} {H0 : Heap} {cI cR cS : ClassId}
set_option maxRecDepth 100000 in
theorem ic_newa (hexec : p.tables.exec = Jvm.exec) (hb : c.code = cc) (hw : ∀ w ∈ wsL_law, w.before args s = true) (hK : va_K D vwCl (am_ty cI cR cS) s) (hP : va_P D vwCl ws H) (hD : va_D A ws) (hS : va_S A H0 H locs) (hA : ∀ q : Nat, H0.size ≤ q → A q)
    {n : Int32} {N : Nat} (hn : ¬ n < 0) (hN : n.toNatClampNeg = N) (hbytes : N * 4 ≤ 536870912) (hcells : cells + 1 ≤ R.cells) (hslots : slots + N ≤ R.slots) (hdg : decode cc pc = .ok (.newarray .int, 2))
    (kk : ∀ (q : Nat) (H1 : Heap), va_P D vwCl (ws ++ [(q, ic_i cI N)]) H1 → va_D A (ws ++ [(q, ic_i cI N)]) → va_S A H0 H1 locs → W p l e R s m args below meth c H1 locs (cells + 1) (slots + N) Q (F0 m (pc + 2) ls (.ref q :: rest))) : W p l e R s m args below meth c H locs cells slots Q (F0 m pc ls (.int n :: rest)) := by
  refine va_newa (atype := .int) (a0 := (N, .inl (fun _ => 0))) hexec hb (am_word hw icw_26) rfl hK hP hD hS hA (fun cA => rfl) hn hN hbytes hcells hslots hdg (fun q cA H1 hK1 hP1 hD1 hS1 => ?_)
  have h1 : s.vm.findClass ("[" ++ FieldType.int.toString) = some cA := (hK1.2 3 (cA, .int) rfl).2
  have h2 : s.vm.findClass ("[" ++ FieldType.int.toString) = some cI := (hK.2 0 (cI, .int) rfl).2
  obtain rfl : cI = cA := Option.some.inj (h2.symm.trans h1)
  exact kk q H1 hP1 hD1 hS1
theorem ic_newq {t0 : Nat} {cA0 : ClassId} (hexec : p.tables.exec = Jvm.exec) (hb : c.code = cc) {own C : String} {index : Nat} (hown : s.vm.findClass own = some m.cls) (hclink : (Cond.classLink own index C).before args s = true) (hover : va_AO C s) (ht : (am_ty cI cR cS)[t0]? = some (cA0, .object C)) (hK : va_K D vwCl (am_ty cI cR cS) s) (hP : va_P D vwCl ws H) (hD : va_D A ws) (hS : va_S A H0 H locs) (hA : ∀ q : Nat, H0.size ≤ q → A q)
    {n : Int32} {N : Nat} (hn : ¬ n < 0) (hN : n.toNatClampNeg = N) (hbytes : N * 4 ≤ 536870912) (hcells : cells + 1 ≤ R.cells) (hslots : slots + N ≤ R.slots) (hdg : decode cc pc = .ok (.anewarray index, 3))
    (kk : ∀ (q : Nat) (H1 : Heap), va_P D vwCl (ws ++ [(q, ic_q cA0 N (fun _ => none))]) H1 → va_D A (ws ++ [(q, ic_q cA0 N (fun _ => none))]) → va_S A H0 H1 locs → W p l e R s m args below meth c H1 locs (cells + 1) (slots + N) Q (F0 m (pc + 3) ls (.ref q :: rest))) : W p l e R s m args below meth c H locs cells slots Q (F0 m pc ls (.int n :: rest)) := by
  refine va_newq hexec hb hown hclink hover hK hP hD hS hA hn hN hbytes hcells hslots hdg (fun q cA H1 hK1 hP1 hD1 hS1 => ?_)
  obtain ⟨-, -, -, -, -, h1⟩ := (hK1.2 3 (cA, .object C) rfl).2
  obtain ⟨-, -, -, -, -, h2⟩ := (hK.2 t0 _ ht).2
  obtain rfl : cA0 = cA := Option.some.inj (h2.symm.trans h1)
  exact kk q H1 hP1 hD1 hS1
theorem ic_str {a : Nat} (h : va_O RJ0 a A s H0) (hS : va_S A H0 H locs) : ∃ cellV : Cell, H[a]? = some cellV ∧ cellV.vm.isStatics = false ∧ s.vm.findClass RJ0 = some cellV.cls := by
  obtain ⟨cell, h1, h2, h3, -⟩ := h.kept hS.2.1
  exact ⟨cell, h1, h2, h3⟩
end ICa
set_option maxHeartbeats 4000000 in
set_option maxRecDepth 100000 in
theorem ic_fill (l : Launch) (D : va_G) (cI cR cS : ClassId) (h0 sz N : Nat) (hN : N < 2 ^ 31) (x : Int32) : Met l yJ7_fill_53178 (ic_ws yJ7_fill_53178 cJ7_fill_53178 4) { frames := 0, cells := 0, slots := 0, locals := 0 } (va_Pc [.ref h0, .int x] (ic_pre D cI cR cS [(h0, ic_i cI N)] sz)) (ic_Q D (fun _ => [(h0, ic_f cI N x)]) (va_A [(h0, ic_i cI N)] sz)) 0 0 (va_A [(h0, ic_i cI N)] sz) := by
  refine Met.ofW (cc := cJ7_fill_53178) (maxL := 4) (ret := none) (by decide) rfl ?_
  intro p e s m args below meth c s₁ B hml hv
  obtain ⟨rfl, hsz, hP, hK, hD0, hE⟩ := hv
  have hx := B.exec
  have hb := B.bytes
  have hr := B.returns
  have hlocks := B.notSynchronized
  subst hsz
  have hD := hD0.self (sz := s.heap.size)
  generalize hAe : va_A [(h0, ic_i cI N)] s.heap.size = A at hD ⊢
  have hS : va_S A s.heap s.heap [] := va_S.rf
  have hl := lv_entry ([.ref h0, .int x]) (n := 4) (Nat.le_of_ble_eq_true rfl)
  rw [lg_entry_eq]
  generalize (lg_sl ([.ref h0, .int x]) ++ List.replicate (4 - (lg_sl ([.ref h0, .int x])).length) Slot.unset).toArray = ls at hl ⊢
  have hl : lv_has ls 4 [(0, .ref h0), (1, .int x)] := hl
  refine lv_iconst (v := nI 0) hx hb dJ7_fill_53178_0 rfl ?_
  refine lv_istore_n (lv' := [(2, .int (nI 0)), (0, .ref h0), (1, .int x)]) hx hb dJ7_fill_53178_1 rfl hl (by decide) rfl (fun ls hl => ?_)
  refine lv_aload_n hx hb dJ7_fill_53178_2 rfl (lv_at hl 1 rfl) ?_
  refine va_alen (v := nI N) hx hb hK hP 0 0 rfl rfl rfl dJ7_fill_53178_3 ?_
  refine lv_istore_n (lv' := [(3, .int (nI N)), (2, .int (nI 0)), (0, .ref h0), (1, .int x)]) hx hb dJ7_fill_53178_4 rfl hl (by decide) rfl (fun ls hl => ?_)
  have hl := lv_sub hl [2, 3, 1, 0] rfl
  have key : ∀ (d i : Nat), i + d = N → ∀ (ls : Array Slot) (H : Heap) (locs : List Loc), lv_has ls 4 [(0, .ref h0), (1, .int x), (2, .int (nI i)), (3, .int (nI N))] → va_P D vwCl [(h0, ic_g cI N (fun j => if j < i then x else 0))] H → va_D A [(h0, ic_g cI N (fun j => if j < i then x else 0))] → va_S A s.heap H locs → W p l e (headSpec (ic_ws yJ7_fill_53178 cJ7_fill_53178 4) { frames := 0, cells := 0, slots := 0, locals := 0 }).room s m #[Value.ref h0, Value.int x] below meth c H locs 0 0 (MQ below (ic_Q D (fun _ => [(h0, ic_f cI N x)]) A) #[Value.ref h0, Value.int x] s 0 0 A) (F0 m 5 ls []) := by
    intro d
    induction d with
    | zero =>
      intro i hi ls H locs hl hP hD hS
      obtain rfl : i = N := by omega
      refine lv_iload_n hx hb dJ7_fill_53178_5 rfl (lv_at hl 2 rfl) ?_
      refine lv_iload_n hx hb dJ7_fill_53178_6 rfl (lv_at hl 3 rfl) ?_
      refine tt_ge (tgt := 20) hx hb dJ7_fill_53178_7 rfl hN hN (fun _ => ?_) (fun h => absurd h (Nat.lt_irrefl _))
      exact W.vret hx hb hr (fun t ht hW => ⟨⟨fun _ => 0, rfl, trivial, by rw [ht]; exact hP, hD⟩, hS.F ht⟩) hS.2.2 dJ7_fill_53178_20
    | succ d ih =>
      intro i hi ls H locs hl hP hD hS
      have hiN : i < N := by omega
      refine lv_iload_n hx hb dJ7_fill_53178_5 rfl (lv_at hl 2 rfl) ?_
      refine lv_iload_n hx hb dJ7_fill_53178_6 rfl (lv_at hl 3 rfl) ?_
      refine tt_ge (tgt := 20) hx hb dJ7_fill_53178_7 rfl (by omega) hN (fun h => absurd h (by omega)) (fun _ => ?_)
      refine lv_aload_n hx hb dJ7_fill_53178_10 rfl (lv_at hl 0 rfl) ?_
      refine lv_iload_n hx hb dJ7_fill_53178_11 rfl (lv_at hl 2 rfl) ?_
      refine lv_iload_n hx hb dJ7_fill_53178_12 rfl (lv_at hl 1 rfl) ?_
      refine tt_iast (f := (fun j => if j < i then x else 0)) 0 0 [(h0, ic_g cI N (fun j => if j < i + 1 then x else 0))] hx hb hK hP hD hS rfl rfl hiN hN ?_ dJ7_fill_53178_13 (fun H locs hP hD hS => ?_)
      · have hf : upd (fun j => if j < i then x else 0) i x = (fun j => if j < i + 1 then x else 0) := by
          funext j
          unfold upd
          by_cases h1 : j = i
          · subst h1; simp
          · by_cases h2 : j < i
            · have h3 : j < i + 1 := by omega
              simp [h1, h2, h3]
            · have h3 : ¬ j < i + 1 := by omega
              simp [h1, h2, h3]
        rw [hf]
        rfl
      refine lv_iinc (v := nI (i + 1)) (lv' := [(2, .int (nI (i + 1))), (0, .ref h0), (1, .int x), (3, .int (nI N))]) hx hb dJ7_fill_53178_14 hl (k := 2) rfl (nI_succ i).symm (by decide) rfl (fun ls hl => ?_)
      refine lv_goto (tgt := 5) hx hb dJ7_fill_53178_17 rfl ?_
      exact ih (i + 1) (by omega) ls H locs (lv_sub hl [1, 2, 0, 3] rfl) hP hD hS
  exact key N 0 (by omega) ls s.heap [] hl hP hD hS

