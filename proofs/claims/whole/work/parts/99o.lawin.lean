/-! ===== the words are among the tables ===== -/
theorem ws_at {big : List Cond} (ws : List Cond) (ps : List Nat) (hp : ws = ps.filterMap (fun i => big[i]?)) : ∀ w ∈ ws, w ∈ big := by
  intro w hw
  rw [hp] at hw
  obtain ⟨i, -, hi⟩ := List.mem_filterMap.mp hw
  exact List.mem_of_getElem? hi
set_option maxRecDepth 20000 in
theorem wsL_in_1 : ∀ w ∈ wsL_law_r1, w ∈ lw_tbl := ws_at wsL_law_r1 [79, 80, 65, 740, 741, 71, 81, 82, 83, 84, 85, 86, 87, 88, 66, 222, 223, 224, 148, 149, 68, 225, 202, 226] rfl
set_option maxRecDepth 20000 in
theorem wsL_in_2 : ∀ w ∈ wsL_law_r2, w ∈ lw_tbl := ws_at wsL_law_r2 [204, 70, 147, 227, 228, 89, 90, 91, 92, 96, 99, 101, 103, 104, 105, 107, 115, 116, 118, 109, 111, 113, 93, 94] rfl
set_option maxRecDepth 20000 in
theorem wsL_in_3 : ∀ w ∈ wsL_law_r3, w ∈ lw_tbl := ws_at wsL_law_r3 [67, 95, 151, 152, 153, 154, 155, 69, 185, 183, 187, 157, 158, 159, 160, 184, 206, 207, 208, 209, 742, 743, 744, 745] rfl
set_option maxRecDepth 20000 in
theorem wsL_in_4 : ∀ w ∈ wsL_law_r4, w ∈ lw_tbl := ws_at wsL_law_r4 [755, 756, 757, 759, 760, 761, 762, 763, 746, 770, 771, 774, 775, 776, 777, 244, 245, 246, 247, 254, 97, 248, 249, 250] rfl
set_option maxRecDepth 20000 in
theorem wsL_in_5 : ∀ w ∈ wsL_law_r5, w ∈ lw_tbl := ws_at wsL_law_r5 [251, 252, 253, 255, 257, 0, 258, 825, 826, 827, 828, 842, 829, 830, 831, 832, 833, 834, 835, 836, 837, 838, 840, 17] rfl
set_option maxRecDepth 20000 in
theorem wsL_in_6 : ∀ w ∈ wsL_law_r6, w ∈ lw_tbl := ws_at wsL_law_r6 [841, 843, 845, 18, 846, 259, 260, 261, 262, 263, 264, 265, 266, 268, 270, 1, 271, 276, 277, 72, 278, 279, 280, 281] rfl
set_option maxRecDepth 20000 in
theorem wsL_in_7 : ∀ w ∈ wsL_law_r7, w ∈ lw_tbl := ws_at wsL_law_r7 [272, 273, 274, 275, 282, 283, 284, 285, 286, 287, 288, 289, 862, 863, 864, 865, 866, 868, 20, 869, 870, 872, 21, 873] rfl
set_option maxRecDepth 20000 in
theorem wsL_in_8 : ∀ w ∈ wsL_law_r8, w ∈ lw_tbl := ws_at wsL_law_r8 [874, 876, 22, 877, 859, 860, 861, 878, 880, 23, 881, 882, 884, 24, 885, 886, 888, 25, 889, 890, 891, 892, 893, 895] rfl
set_option maxRecDepth 20000 in
theorem wsL_in_9 : ∀ w ∈ wsL_law_r9, w ∈ lw_tbl := ws_at wsL_law_r9 [26, 896, 897, 899, 27, 900, 901, 350, 351, 902, 904, 28, 905, 290, 291, 292, 293, 301, 294, 295, 296, 297, 298, 299] rfl
set_option maxRecDepth 20000 in
theorem wsL_in_10 : ∀ w ∈ wsL_law_r10, w ∈ lw_tbl := ws_at wsL_law_r10 [300, 847, 848, 849, 850, 854, 851, 852, 853, 855, 857, 19, 858, 302, 303, 304, 305, 117, 306, 308, 2, 309, 110, 310] rfl
set_option maxRecDepth 20000 in
theorem wsL_in_11 : ∀ w ∈ wsL_law_r11, w ∈ lw_tbl := ws_at wsL_law_r11 [311, 312, 313, 314, 315, 316, 317, 319, 320, 321, 322, 323, 324, 325, 906, 907, 908, 909, 910, 912, 29, 913, 914, 916] rfl
set_option maxRecDepth 20000 in
theorem wsL_in_12 : ∀ w ∈ wsL_law_r12, w ∈ lw_tbl := ws_at wsL_law_r12 [30, 917, 326, 327, 328, 329, 330, 331, 332, 333, 336, 337, 338, 339, 340, 918, 919, 920, 921, 922, 924, 31, 925, 926] rfl
set_option maxRecDepth 20000 in
theorem wsL_in_13 : ∀ w ∈ wsL_law_r13, w ∈ lw_tbl := ws_at wsL_law_r13 [341, 342, 343, 344, 352, 345, 346, 347, 348, 349, 353, 354, 355, 356, 927, 928, 929, 930, 931, 357, 358, 359, 360, 361] rfl
set_option maxRecDepth 20000 in
theorem wsL_in_14 : ∀ w ∈ wsL_law_r14, w ∈ lw_tbl := ws_at wsL_law_r14 [932, 933, 934, 935, 362, 363, 364, 365, 112, 366, 367, 368, 369, 370, 371, 372, 373, 374, 375, 376, 936, 937, 938, 939] rfl
set_option maxRecDepth 20000 in
theorem wsL_in_15 : ∀ w ∈ wsL_law_r15, w ∈ lw_tbl := ws_at wsL_law_r15 [940, 941, 943, 32, 944, 945, 947, 33, 948, 949, 950, 952, 34, 953, 377, 378, 379, 380, 381, 382, 383, 384, 385, 386] rfl
set_option maxRecDepth 20000 in
theorem wsL_in_16 : ∀ w ∈ wsL_law_r16, w ∈ lw_tbl := ws_at wsL_law_r16 [387, 388, 389, 390, 391, 392, 393, 394, 395, 396, 397, 954, 955, 956, 957, 958, 960, 35, 961, 962, 964, 36, 965, 966] rfl
set_option maxRecDepth 20000 in
theorem wsL_in_17 : ∀ w ∈ wsL_law_r17, w ∈ lw_tbl := ws_at wsL_law_r17 [968, 37, 969, 970, 972, 38, 973, 398, 399, 400, 401, 106, 402, 403, 404, 405, 406, 408, 407, 73, 974, 975, 976, 977] rfl
set_option maxRecDepth 20000 in
theorem wsL_in_18 : ∀ w ∈ wsL_law_r18, w ∈ lw_tbl := ws_at wsL_law_r18 [978, 979, 980, 981, 983, 39, 984, 985, 986, 987, 988, 990, 40, 991, 409, 410, 411, 412, 102, 992, 993, 994, 995, 413] rfl
set_option maxRecDepth 20000 in
theorem wsL_in_19 : ∀ w ∈ wsL_law_r19, w ∈ lw_tbl := ws_at wsL_law_r19 [414, 415, 416, 996, 997, 998, 999, 1000, 1002, 41, 1003, 417, 418, 419, 420, 421, 422, 423, 424, 1004, 1005, 1006, 1007, 1008] rfl
set_option maxRecDepth 20000 in
theorem wsL_in_20 : ∀ w ∈ wsL_law_r20, w ∈ lw_tbl := ws_at wsL_law_r20 [1010, 42, 1011, 425, 426, 427, 428, 1012, 1013, 1014, 1015, 1016, 1018, 43, 1019, 429, 430, 431, 432, 119, 433, 434, 1020, 1021] rfl
set_option maxRecDepth 20000 in
theorem wsL_in_21 : ∀ w ∈ wsL_law_r21, w ∈ lw_tbl := ws_at wsL_law_r21 [1022, 1023, 1024, 435, 436, 437, 438, 439, 441, 3, 442, 1025, 1026, 1027, 1028, 1029, 1031, 44, 1032, 1033, 1035, 45, 1036, 443] rfl
set_option maxRecDepth 20000 in
theorem wsL_in_22 : ∀ w ∈ wsL_law_r22, w ∈ lw_tbl := ws_at wsL_law_r22 [444, 445, 446, 1037, 1038, 1039, 1040, 447, 448, 449, 450, 1041, 1042, 1043, 1044, 451, 452, 453, 454, 1045, 1046, 1047, 1048, 455] rfl
set_option maxRecDepth 20000 in
theorem wsL_in_23 : ∀ w ∈ wsL_law_r23, w ∈ lw_tbl := ws_at wsL_law_r23 [456, 457, 458, 1049, 1050, 1051, 1052, 1053, 1055, 46, 1056, 459, 460, 461, 462, 463, 464, 74, 465, 466, 467, 468, 469, 471] rfl
set_option maxRecDepth 20000 in
theorem wsL_in_24 : ∀ w ∈ wsL_law_r24, w ∈ lw_tbl := ws_at wsL_law_r24 [4, 472, 1057, 1058, 1059, 1060, 1061, 1063, 47, 1064, 1065, 1066, 1067, 473, 474, 475, 476, 1068, 1069, 1070, 1071, 1072, 1074, 48] rfl
set_option maxRecDepth 20000 in
theorem wsL_in_25 : ∀ w ∈ wsL_law_r25, w ∈ lw_tbl := ws_at wsL_law_r25 [1075, 477, 478, 479, 480, 481, 483, 5, 484, 1076, 1077, 1078, 1079, 1080, 1082, 49, 1083, 485, 486, 487, 488, 489, 491, 6] rfl
set_option maxRecDepth 20000 in
theorem wsL_in_26 : ∀ w ∈ wsL_law_r26, w ∈ lw_tbl := ws_at wsL_law_r26 [492, 500, 493, 494, 495, 496, 497, 498, 499, 211, 501, 503, 7, 504, 214, 210, 1084, 1085, 1086, 1087, 1088, 1090, 50, 1091] rfl
set_option maxRecDepth 20000 in
theorem wsL_in_27 : ∀ w ∈ wsL_law_r27, w ∈ lw_tbl := ws_at wsL_law_r27 [1095, 1092, 1093, 1094, 1096, 1098, 51, 1099, 1100, 1102, 52, 1103, 505, 506, 507, 508, 1104, 1105, 1106, 1107, 509, 510, 511, 512] rfl
set_option maxRecDepth 20000 in
theorem wsL_in_28 : ∀ w ∈ wsL_law_r28, w ∈ lw_tbl := ws_at wsL_law_r28 [513, 514, 515, 516, 517, 1108, 1109, 1110, 1111, 1112, 1114, 53, 1115, 1116, 518, 519, 520, 521, 522, 523, 524, 1117, 1118, 1119] rfl
set_option maxRecDepth 20000 in
theorem wsL_in_29 : ∀ w ∈ wsL_law_r29, w ∈ lw_tbl := ws_at wsL_law_r29 [1120, 525, 526, 527, 528, 114, 1121, 1122, 1123, 1124, 529, 530, 531, 532, 186, 162, 533, 534, 535, 536, 161, 1125, 1126, 1127] rfl
set_option maxRecDepth 20000 in
theorem wsL_in_30 : ∀ w ∈ wsL_law_r30, w ∈ lw_tbl := ws_at wsL_law_r30 [1128, 764, 537, 538, 539, 540, 1129, 1130, 1131, 1132, 541, 542, 543, 544, 188, 192, 190, 545, 546, 547, 548, 189, 163, 549] rfl
set_option maxRecDepth 20000 in
theorem wsL_in_31 : ∀ w ∈ wsL_law_r31, w ∈ lw_tbl := ws_at wsL_law_r31 [550, 551, 552, 169, 553, 554, 555, 556, 166, 164, 557, 559, 8, 560, 561, 563, 9, 564, 167, 565, 567, 10, 568, 570] rfl
set_option maxRecDepth 20000 in
theorem wsL_in_32 : ∀ w ∈ wsL_law_r32, w ∈ lw_tbl := ws_at wsL_law_r32 [571, 572, 573, 574, 575, 576, 75, 577, 1245, 578, 579, 580, 581, 582, 1246, 584, 585, 586, 587, 588, 589, 590, 591, 592] rfl
set_option maxRecDepth 20000 in
theorem wsL_in_33 : ∀ w ∈ wsL_law_r33, w ∈ lw_tbl := ws_at wsL_law_r33 [593, 76, 594, 595, 596, 597, 598, 600, 601, 77, 602, 603, 604, 78, 605, 606, 607, 608, 609, 610, 611, 612, 613, 614] rfl
set_option maxRecDepth 20000 in
theorem wsL_in_34 : ∀ w ∈ wsL_law_r34, w ∈ lw_tbl := ws_at wsL_law_r34 [615, 616, 618, 620, 622, 623, 625, 11, 626, 168, 98, 627, 629, 12, 630, 631, 633, 13, 634, 635, 636, 637, 646, 647] rfl
set_option maxRecDepth 20000 in
theorem wsL_in_35 : ∀ w ∈ wsL_law_r35, w ∈ lw_tbl := ws_at wsL_law_r35 [649, 14, 650, 652, 654, 15, 655, 656, 659, 661, 16, 662, 165, 191, 1133, 1134, 1135, 1136, 766, 769, 772, 773, 767, 765] rfl
set_option maxRecDepth 20000 in
theorem wsL_in_36 : ∀ w ∈ wsL_law_r36, w ∈ lw_tbl := ws_at wsL_law_r36 [1137, 1139, 54, 1140, 768, 1141, 1143, 55, 1144, 1145, 1147, 56, 1148, 1149, 1151, 57, 1152, 1153, 1155, 58, 1156, 1157, 1158, 1159] rfl
set_option maxRecDepth 20000 in
theorem wsL_in_37 : ∀ w ∈ wsL_law_r37, w ∈ lw_tbl := ws_at wsL_law_r37 [1161, 59, 1162, 1164, 1166, 60, 1167, 1168, 1170, 61, 1171, 1174, 1176, 62, 1177, 1179, 1181, 63, 1182, 664, 665, 666, 667, 108] rfl
set_option maxRecDepth 20000 in
theorem wsL_in_38 : ∀ w ∈ wsL_law_r38, w ∈ lw_tbl := ws_at wsL_law_r38 [668, 669, 670, 1183, 1184, 1185, 1186, 1187, 1188, 1189, 671, 672, 673, 674, 100, 680, 675, 676, 677, 678, 1190, 1191, 1192, 1193] rfl
set_option maxRecDepth 20000 in
theorem wsL_in_39 : ∀ w ∈ wsL_law_r39, w ∈ lw_tbl := ws_at wsL_law_r39 [1200, 1194, 1195, 1196, 1197, 1198, 1199, 681, 682, 683, 684, 685, 686, 687, 688, 689, 213, 690, 1201, 1202, 1203, 1204, 1205, 691] rfl
set_option maxRecDepth 20000 in
theorem wsL_in_40 : ∀ w ∈ wsL_law_r40, w ∈ lw_tbl := ws_at wsL_law_r40 [692, 693, 694, 695, 696, 697, 698, 699, 700, 701, 702, 1206, 1207, 1208, 1209, 1210, 1211, 1212, 703, 704, 705, 706, 212, 707] rfl
set_option maxRecDepth 20000 in
theorem wsL_in_41 : ∀ w ∈ wsL_law_r41, w ∈ lw_tbl := ws_at wsL_law_r41 [1213, 1214, 1215, 1216, 708, 709, 710, 711, 1217, 1218, 1219, 1220, 712, 713, 714, 715, 1221, 1222, 1223, 1224, 716, 717, 718, 719] rfl
set_option maxRecDepth 20000 in
theorem wsL_in_42 : ∀ w ∈ wsL_law_r42, w ∈ lw_tbl := ws_at wsL_law_r42 [1225, 1226, 1227, 1228, 758, 720, 721, 722, 723, 1229, 1230, 1231, 1232, 724, 725, 726, 727, 1233, 1234, 1235, 1236, 728, 729, 730] rfl
set_option maxRecDepth 20000 in
theorem wsL_in_43 : ∀ w ∈ wsL_law_r43, w ∈ lw_tbl := ws_at wsL_law_r43 [731, 732, 733, 734, 735, 1237, 1238, 1239, 1240, 736, 737, 738, 739, 1241, 1242, 1243, 1244] rfl
theorem wsX_in0 : ∀ w ∈ wsX00, w ∈ lw_tbl := ws_at wsX00 [215, 217, 219] (by decide +kernel)
theorem wsX_in1 : ∀ w ∈ wsX10, w ∈ lw_tbl := ws_at wsX10 [170, 172, 174, 176, 178, 180] (by decide +kernel)
theorem wsX_in2 : ∀ w ∈ wsX20, w ∈ lw_tbl := ws_at wsX20 [193, 195, 197, 199] (by decide +kernel)
theorem wsX_in3 : ∀ w ∈ wsX30, w ∈ lw_tbl := ws_at wsX30 [120, 122, 124, 126, 128, 130, 132, 134, 136, 138, 140, 142, 144] (by decide +kernel)
theorem wsX_in4 : ∀ w ∈ wsX40, w ∈ lw_tbl := ws_at wsX40 [229, 231, 233, 235, 237, 239, 241] (by decide +kernel)
theorem wsX_in5 : ∀ w ∈ wsX50, w ∈ lw_tbl := ws_at wsX50 [778, 780, 782, 784, 786, 788, 790, 792, 794, 796, 798, 800, 802, 804, 806, 808, 810, 812, 814, 816, 818, 820, 822] (by decide +kernel)
theorem wsL_cat {a b : List Cond} (ha : ∀ w ∈ a, w ∈ lw_tbl) (hb : ∀ w ∈ b, w ∈ lw_tbl) : ∀ w ∈ a ++ b, w ∈ lw_tbl := fun w h => (List.mem_append.mp h).elim (ha w) (hb w)
theorem wsL_law_in : ∀ w ∈ wsL_law, w ∈ lw_tbl := wsL_cat (wsL_cat (wsL_cat (wsL_cat (wsL_cat (wsL_cat (wsL_cat (wsL_cat wsL_in_1 (wsL_cat wsL_in_2 (wsL_cat wsL_in_3 (wsL_cat wsL_in_4 (wsL_cat wsL_in_5 (wsL_cat wsL_in_6 (wsL_cat wsL_in_7 (wsL_cat wsL_in_8 (wsL_cat wsL_in_9 (wsL_cat wsL_in_10 (wsL_cat wsL_in_11 (wsL_cat wsL_in_12 (wsL_cat wsL_in_13 (wsL_cat wsL_in_14 (wsL_cat wsL_in_15 (wsL_cat wsL_in_16 (wsL_cat wsL_in_17 (wsL_cat wsL_in_18 (wsL_cat wsL_in_19 (wsL_cat wsL_in_20 (wsL_cat wsL_in_21 (wsL_cat wsL_in_22 (wsL_cat wsL_in_23 (wsL_cat wsL_in_24 (wsL_cat wsL_in_25 (wsL_cat wsL_in_26 (wsL_cat wsL_in_27 (wsL_cat wsL_in_28 (wsL_cat wsL_in_29 (wsL_cat wsL_in_30 (wsL_cat wsL_in_31 (wsL_cat wsL_in_32 (wsL_cat wsL_in_33 (wsL_cat wsL_in_34 (wsL_cat wsL_in_35 (wsL_cat wsL_in_36 (wsL_cat wsL_in_37 (wsL_cat wsL_in_38 (wsL_cat wsL_in_39 (wsL_cat wsL_in_40 (wsL_cat wsL_in_41 (wsL_cat wsL_in_42 wsL_in_43)))))))))))))))))))))))))))))))))))))))))) wsX_in4) wsX_in5) wsX_in3) wsX_in2) wsX_in0) wsX_in1) (fun _ h => absurd h List.not_mem_nil)
theorem inlX0 : ∀ w ∈ wsX00, w ∈ wsL_law := fun _ h => List.mem_append_left _ (List.mem_append_left _ (List.mem_append_right _ h))
theorem inX0 : ∀ w ∈ wsX00, w ∈ lw_tbl := fun w h => wsL_law_in w (inlX0 w h)
theorem inlX1 : ∀ w ∈ wsX10, w ∈ wsL_law := fun _ h => List.mem_append_left _ (List.mem_append_right _ h)
theorem inX1 : ∀ w ∈ wsX10, w ∈ lw_tbl := fun w h => wsL_law_in w (inlX1 w h)
theorem inlX2 : ∀ w ∈ wsX20, w ∈ wsL_law := fun _ h => List.mem_append_left _ (List.mem_append_left _ (List.mem_append_left _ (List.mem_append_right _ h)))
theorem inX2 : ∀ w ∈ wsX20, w ∈ lw_tbl := fun w h => wsL_law_in w (inlX2 w h)
theorem inlX3 : ∀ w ∈ wsX30, w ∈ wsL_law := fun _ h => List.mem_append_left _ (List.mem_append_left _ (List.mem_append_left _ (List.mem_append_left _ (List.mem_append_right _ h))))
theorem inX3 : ∀ w ∈ wsX30, w ∈ lw_tbl := fun w h => wsL_law_in w (inlX3 w h)
theorem inlX4 : ∀ w ∈ wsX40, w ∈ wsL_law := fun _ h => List.mem_append_left _ (List.mem_append_left _ (List.mem_append_left _ (List.mem_append_left _ (List.mem_append_left _ (List.mem_append_left _ (List.mem_append_right _ h))))))
theorem inX4 : ∀ w ∈ wsX40, w ∈ lw_tbl := fun w h => wsL_law_in w (inlX4 w h)
theorem inlX5 : ∀ w ∈ wsX50, w ∈ wsL_law := fun _ h => List.mem_append_left _ (List.mem_append_left _ (List.mem_append_left _ (List.mem_append_left _ (List.mem_append_left _ (List.mem_append_right _ h)))))
theorem inX5 : ∀ w ∈ wsX50, w ∈ lw_tbl := fun w h => wsL_law_in w (inlX5 w h)
theorem inJx145de : ∀ w ∈ wsJx145de0, w ∈ lw_tbl := ws_at wsJx145de0 [] rfl
theorem inJx9f9b0 : ∀ w ∈ wsJx9f9b00, w ∈ lw_tbl := ws_at wsJx9f9b00 [] rfl
theorem inJxb160c : ∀ w ∈ wsJxb160c0, w ∈ lw_tbl := ws_at wsJxb160c0 [] rfl
theorem inJ6 : ∀ w ∈ wsJ60, w ∈ lw_tbl := ws_at wsJ60 [] rfl
theorem inJ9 : ∀ w ∈ wsJ90, w ∈ lw_tbl := ws_at wsJ90 [] rfl
theorem inJ0 : ∀ w ∈ wsJ00, w ∈ lw_tbl := ws_at wsJ00 [] rfl
theorem inJ1 : ∀ w ∈ wsJ10, w ∈ lw_tbl := ws_at wsJ10 [] rfl
theorem inJ2 : ∀ w ∈ wsJ20, w ∈ lw_tbl := ws_at wsJ20 [] rfl
theorem inJ10 : ∀ w ∈ wsJ100, w ∈ lw_tbl := ws_at wsJ100 [] rfl
theorem inJxfd54e : ∀ w ∈ wsJxfd54e0, w ∈ lw_tbl := ws_at wsJxfd54e0 [] rfl
theorem inJx3cf43 : ∀ w ∈ wsJx3cf430, w ∈ lw_tbl := ws_at wsJx3cf430 [] rfl
theorem inJ7 : ∀ w ∈ wsJ70, w ∈ lw_tbl := ws_at wsJ70 [] rfl
theorem inJ3 : ∀ w ∈ wsJ30, w ∈ lw_tbl := ws_at wsJ30 [] rfl
