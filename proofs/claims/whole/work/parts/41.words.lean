/-! WHAT HOLDS AT THE LAW'S ENTRY -/
theorem wsL_law_x0 : ∀ w ∈ (vx_atS RX7 231 "java/lang/IllegalArgumentException" ["java/lang/RuntimeException", "java/lang/Exception"]).filter goodWord, w ∈ lw_tbl := by decide +kernel
theorem wsL_law_x1 : ∀ w ∈ (vx_atS RX7 100 "java/lang/IllegalStateException" ["java/lang/RuntimeException", "java/lang/Exception"]).filter goodWord, w ∈ lw_tbl := by decide +kernel
theorem wsL_law_x2 : ∀ w ∈ (vx_atS RX7 255 "java/lang/IndexOutOfBoundsException" ["java/lang/RuntimeException", "java/lang/Exception"]).filter goodWord, w ∈ lw_tbl := by decide +kernel
/-- what is private in the builder's superclass is selected of the builder too -/
def sb3 : List Cond := [.selects RJ4 yJ5_ensureCapacityInternal_d00df yJ5_ensureCapacityInternal_d00df, .selects RJ4 yJ5_newCapacity_0f7a4 yJ5_newCapacity_0f7a4, .selects RJ4 yJ5_inflate_da8c8 yJ5_inflate_da8c8]
def lw_tb3 : List Cond := sb3 ++ lw_tbl
theorem sel_sb {y z : MethodName} {s : State} {args : Array Value} {C : String} {n : Nat} (hy : y.cls ≠ "java/lang/invoke/MethodHandle" ∧ y.cls ≠ "java/lang/invoke/VarHandle") (hins : (Cond.instantiable C n).before args s = true) (hpriv : (Cond.privateMethod y).before args s = true) (hinst : (Cond.instanceMethod y).before args s = true) (hz : z.cls = y.cls) (h0 : (Cond.selects C z z).before args s = true) : (Cond.selects C y y).before args s = true := by
  obtain ⟨c, k, hc, hk, -, hniab, -, -⟩ := Cond.instantiable_spec hins
  obtain ⟨mk, methM, hnamed, hmethM, -, -⟩ := Cond.instanceMethod_spec hinst
  have hfound : s.methodFound? y.cls y.name y.desc = some mk := State.methodFound?_of_named hnamed hy
  have hsel : selectMethod {} s.vm c mk = .method mk := selectMethod_private hmethM (Cond.privateMethod_at hpriv mk methM hnamed hmethM)
  obtain ⟨c', r', m', -, -, hm', -, kk, hkk, hni⟩ := Cond.selects_spec h0
  have e : m'.cls = mk.cls := Option.some.inj ((findClass_of_methodNamed hm').symm.trans (by rw [hz]; exact findClass_of_methodNamed hnamed))
  rw [e] at hkk
  simp only [Cond.before, Cond.holds, Cond.value, hc, hfound, hnamed, hsel, hkk]
  simp; exact hni
def pvL : List Cond := [.instantiable RJ4 4, .privateMethod yJ5_ensureCapacityInternal_d00df, .instanceMethod yJ5_ensureCapacityInternal_d00df, .privateMethod yJ5_newCapacity_0f7a4, .instanceMethod yJ5_newCapacity_0f7a4, .privateMethod yJ5_inflate_da8c8, .instanceMethod yJ5_inflate_da8c8, .selects RJ4 yJ5_isLatin1_aae02 yJ5_isLatin1_aae02]
theorem mem_fm {α : Type} {big ws : List α} {ps : List Nat} (h : ws = ps.filterMap (fun i => big[i]?)) : ∀ w ∈ ws, w ∈ big := by
  intro w hw
  rw [h] at hw
  obtain ⟨i, -, hi⟩ := List.mem_filterMap.mp hw
  exact List.mem_of_getElem? hi
set_option maxRecDepth 100000 in
theorem pv_in : ∀ w ∈ pvL, w ∈ lw_tbl := mem_fm (ps := [607, 648, 649, 652, 653, 721, 722, 670]) (by decide +kernel)
theorem tb3_hold {args : Array Value} {s : State} (hts : ∀ w ∈ lw_tbl, w.before args s = true) : ∀ w ∈ lw_tb3, w.before args s = true := by
  have P : ∀ w ∈ pvL, w.before args s = true := fun w h => hts w (pv_in w h)
  have P0 := P _ (List.mem_of_getElem? (i := 0) rfl)
  have P7 := P _ (List.mem_of_getElem? (i := 7) rfl)
  intro w hw
  rcases List.mem_append.mp hw with h | h
  · simp only [sb3, List.mem_cons, List.not_mem_nil, or_false] at h
    rcases h with rfl | rfl | rfl
    · exact sel_sb (z := yJ5_isLatin1_aae02) (by decide +kernel) P0 (P _ (List.mem_of_getElem? (i := 1) rfl)) (P _ (List.mem_of_getElem? (i := 2) rfl)) rfl P7
    · exact sel_sb (z := yJ5_isLatin1_aae02) (by decide +kernel) P0 (P _ (List.mem_of_getElem? (i := 3) rfl)) (P _ (List.mem_of_getElem? (i := 4) rfl)) rfl P7
    · exact sel_sb (z := yJ5_isLatin1_aae02) (by decide +kernel) P0 (P _ (List.mem_of_getElem? (i := 5) rfl)) (P _ (List.mem_of_getElem? (i := 6) rfl)) rfl P7
  · exact hts w h
set_option maxRecDepth 100000 in
theorem in3_1 : ∀ w ∈ wsL_law0_r1, w ∈ lw_tb3 := mem_fm (ps := [68, 69, 37, 1026, 1027, 48, 1264, 70, 71, 72, 73, 74, 75, 76, 77, 40, 215, 102, 103, 41, 216, 217, 218, 219]) (by decide +kernel)
set_option maxRecDepth 100000 in
theorem in3_2 : ∀ w ∈ wsL_law0_r2, w ∈ lw_tb3 := mem_fm (ps := [181, 182, 46, 220, 202, 203, 47, 221, 222, 78, 79, 80, 88, 90, 81, 82, 39, 83, 92, 84, 85, 38, 86, 87]) (by decide +kernel)
set_option maxRecDepth 100000 in
theorem in3_3 : ∀ w ∈ wsL_law0_r3, w ∈ lw_tb3 := mem_fm (ps := [104, 105, 106, 107, 108, 119, 120, 121, 122, 93, 94, 91, 123, 125, 3, 126, 127, 129, 4, 130, 131, 133, 5, 134]) (by decide +kernel)
set_option maxRecDepth 100000 in
theorem in3_4 : ∀ w ∈ wsL_law0_r4, w ∈ lw_tb3 := mem_fm (ps := [179, 139, 43, 140, 180, 135, 136, 42, 137, 138, 141, 142, 143, 144, 145, 146, 44, 147, 148, 1292, 149, 166, 167, 168]) (by decide +kernel)
set_option maxRecDepth 100000 in
theorem in3_5 : ∀ w ∈ wsL_law0_r5, w ∈ lw_tb3 := mem_fm (ps := [169, 170, 172, 173, 174, 175, 176, 178, 177, 45, 183, 184, 185, 186, 201, 187, 188, 189, 204, 205, 206, 207, 211, 208]) (by decide +kernel)
set_option maxRecDepth 100000 in
theorem in3_6 : ∀ w ∈ wsL_law0_r6, w ∈ lw_tb3 := mem_fm (ps := [209, 210, 1028, 1029, 1030, 1031, 1034, 1035, 1036, 1120, 1037, 1039, 1040, 1041, 1042, 1043, 1044, 1045, 1046, 1048, 1049, 1050, 1051, 1053]) (by decide +kernel)
set_option maxRecDepth 100000 in
theorem in3_7 : ∀ w ∈ wsL_law0_r7, w ∈ lw_tb3 := mem_fm (ps := [1054, 1055, 1056, 1057, 1058, 240, 241, 36, 242, 243, 245, 246, 247, 248, 343, 344, 54, 351, 249, 250, 251, 252, 52, 320]) (by decide +kernel)
set_option maxRecDepth 100000 in
theorem in3_8 : ∀ w ∈ wsL_law0_r8, w ∈ lw_tb3 := mem_fm (ps := [321, 322, 323, 324, 325, 326, 327, 53, 345, 346, 347, 348, 349, 352, 354, 1125, 1126, 1127, 1128, 1033, 1129, 1130, 1131, 1132]) (by decide +kernel)
set_option maxRecDepth 100000 in
theorem in3_9 : ∀ w ∈ wsL_law0_r9, w ∈ lw_tb3 := mem_fm (ps := [1133, 1134, 1135, 1137, 24, 1138, 1060, 1121, 1122, 1123, 1124, 363, 364, 365, 366, 367, 368, 369, 370, 353, 371, 373, 7, 374]) (by decide +kernel)
set_option maxRecDepth 100000 in
theorem in3_10 : ∀ w ∈ wsL_law0_r10, w ∈ lw_tb3 := mem_fm (ps := [375, 55, 343, 391, 392, 393, 394, 395, 396, 56, 397, 398, 399, 57, 400, 401, 402, 403, 404, 405, 407, 8, 408, 409]) (by decide +kernel)
set_option maxRecDepth 100000 in
theorem in3_11 : ∀ w ∈ wsL_law0_r11, w ∈ lw_tb3 := mem_fm (ps := [585, 579, 489, 110, 583, 410, 412, 9, 413, 498, 581, 495, 414, 416, 10, 417, 487, 418, 419, 420, 421, 422, 423, 424]) (by decide +kernel)
set_option maxRecDepth 100000 in
theorem in3_12 : ∀ w ∈ wsL_law0_r12, w ∈ lw_tb3 := mem_fm (ps := [425, 426, 427, 428, 429, 1139, 1140, 1141, 1142, 1143, 1145, 25, 1146, 1147, 1149, 26, 1150, 1047, 1151, 1153, 27, 1154, 1155, 1157]) (by decide +kernel)
set_option maxRecDepth 100000 in
theorem in3_13 : ∀ w ∈ wsL_law0_r13, w ∈ lw_tb3 := mem_fm (ps := [28, 1158, 1159, 1161, 29, 1162, 1032, 430, 431, 432, 433, 434, 435, 436, 355, 1163, 1164, 1165, 1166, 437, 438, 439, 440, 441]) (by decide +kernel)
set_option maxRecDepth 100000 in
theorem in3_14 : ∀ w ∈ wsL_law0_r14, w ∈ lw_tb3 := mem_fm (ps := [442, 443, 449, 450, 444, 446, 11, 447, 102, 1167, 1168, 1169, 1170, 1171, 1175, 1172, 1173, 1174, 452, 453, 454, 455, 456, 457]) (by decide +kernel)
set_option maxRecDepth 100000 in
theorem in3_15 : ∀ w ∈ wsL_law0_r15, w ∈ lw_tb3 := mem_fm (ps := [458, 109, 464, 476, 58, 485, 459, 461, 12, 462, 464, 465, 466, 467, 499, 470, 472, 13, 473, 474, 477, 478, 479, 480]) (by decide +kernel)
set_option maxRecDepth 100000 in
theorem in3_16 : ∀ w ∈ wsL_law0_r16, w ∈ lw_tb3 := mem_fm (ps := [483, 486, 488, 490, 492, 481, 494, 482, 1176, 1177, 1178, 1179, 1038, 1180, 1182, 30, 1183, 517, 518, 519, 520, 521, 522, 523]) (by decide +kernel)
set_option maxRecDepth 100000 in
theorem in3_17 : ∀ w ∈ wsL_law0_r17, w ∈ lw_tb3 := mem_fm (ps := [191, 525, 526, 527, 528, 529, 530, 531, 532, 533, 535, 14, 536, 190, 537, 539, 15, 540, 541, 860, 868, 1184, 1185, 1186]) (by decide +kernel)
set_option maxRecDepth 100000 in
theorem in3_18 : ∀ w ∈ wsL_law0_r18, w ∈ lw_tb3 := mem_fm (ps := [1187, 1052, 542, 543, 544, 545, 546, 547, 548, 550, 551, 552, 553, 554, 555, 556, 557, 558, 560, 16, 561, 1188, 1189, 1190]) (by decide +kernel)
set_option maxRecDepth 100000 in
theorem in3_19 : ∀ w ∈ wsL_law0_r19, w ∈ lw_tb3 := mem_fm (ps := [1191, 1192, 1194, 31, 1195, 562, 563, 564, 565, 566, 567, 568, 409, 571, 59, 577, 572, 573, 574, 575, 576, 578, 496, 580]) (by decide +kernel)
set_option maxRecDepth 100000 in
theorem in3_20 : ∀ w ∈ wsL_law0_r20, w ∈ lw_tb3 := mem_fm (ps := [582, 584, 1196, 1197, 1198, 1199, 597, 598, 599, 600, 601, 602, 603, 541, 604, 60, 858, 605, 606, 607, 608, 857, 484, 859]) (by decide +kernel)
set_option maxRecDepth 100000 in
theorem in3_21 : ∀ w ∈ wsL_law0_r21, w ∈ lw_tb3 := mem_fm (ps := [861, 863, 609, 610, 62, 497, 350, 865, 867, 611, 612, 613, 614, 615, 61, 616, 617, 618, 319, 627, 628, 620, 621, 64]) (by decide +kernel)
set_option maxRecDepth 100000 in
theorem in3_22 : ∀ w ∈ wsL_law0_r22, w ∈ lw_tb3 := mem_fm (ps := [622, 623, 624, 625, 626, 640, 641, 642, 643, 644, 1266, 639, 645, 646, 630, 647, 648, 66, 649, 650, 1267, 0, 652, 653]) (by decide +kernel)
set_option maxRecDepth 100000 in
theorem in3_23 : ∀ w ∈ wsL_law0_r23, w ∈ lw_tb3 := mem_fm (ps := [654, 1268, 1, 656, 657, 659, 658, 660, 661, 662, 663, 664, 665, 666, 667, 669, 670, 672, 673, 671, 674, 675, 676, 677]) (by decide +kernel)
set_option maxRecDepth 100000 in
theorem in3_24 : ∀ w ∈ wsL_law0_r24, w ∈ lw_tb3 := mem_fm (ps := [678, 680, 682, 683, 684, 706, 685, 686, 687, 688, 689, 690, 691, 692, 63, 693, 694, 696, 697, 698, 699, 700, 701, 702]) (by decide +kernel)
set_option maxRecDepth 100000 in
theorem in3_25 : ∀ w ∈ wsL_law0_r25, w ∈ lw_tb3 := mem_fm (ps := [712, 703, 704, 705, 708, 710, 713, 714, 715, 716, 717, 1269, 718, 719, 720, 721, 67, 722, 723, 1270, 2, 725, 726, 727]) (by decide +kernel)
set_option maxRecDepth 100000 in
theorem in3_26 : ∀ w ∈ wsL_law0_r26, w ∈ lw_tb3 := mem_fm (ps := [728, 729, 730, 731, 732, 733, 734, 735, 736, 737, 738, 739, 740, 741, 742, 743, 744, 745, 746, 747, 748, 749, 750, 751]) (by decide +kernel)
set_option maxRecDepth 100000 in
theorem in3_27 : ∀ w ∈ wsL_law0_r27, w ∈ lw_tb3 := mem_fm (ps := [752, 753, 754, 755, 756, 757, 758, 759, 760, 761, 762, 763, 764, 847, 846, 815, 629, 765, 767, 768, 766, 769, 770, 772]) (by decide +kernel)
set_option maxRecDepth 100000 in
theorem in3_28 : ∀ w ∈ wsL_law0_r28, w ∈ lw_tb3 := mem_fm (ps := [771, 773, 774, 775, 776, 771, 777, 778, 779, 780, 781, 782, 783, 784, 785, 786, 787, 789, 833, 834, 835, 836, 837, 838]) (by decide +kernel)
set_option maxRecDepth 100000 in
theorem in3_29 : ∀ w ∈ wsL_law0_r29, w ∈ lw_tb3 := mem_fm (ps := [839, 840, 841, 842, 843, 844, 845, 1200, 1201, 1202, 1203, 882, 883, 884, 885, 886, 887, 888, 862, 864, 889, 891, 17, 892]) (by decide +kernel)
set_option maxRecDepth 100000 in
theorem in3_30 : ∀ w ∈ wsL_law0_r30, w ∈ lw_tb3 := mem_fm (ps := [1204, 1205, 1206, 1207, 1208, 1210, 32, 1211, 896, 897, 898, 899, 900, 901, 902, 111, 1212, 1213, 1214, 1215, 903, 904, 905, 906]) (by decide +kernel)
set_option maxRecDepth 100000 in
theorem in3_31 : ∀ w ∈ wsL_law0_r31, w ∈ lw_tb3 := mem_fm (ps := [907, 908, 909, 911, 913, 18, 914, 493, 915, 917, 19, 918, 919, 921, 20, 922, 923, 925, 21, 926, 491, 1216, 1217, 1218]) (by decide +kernel)
set_option maxRecDepth 100000 in
theorem in3_32 : ∀ w ∈ wsL_law0_r32, w ∈ lw_tb3 := mem_fm (ps := [1219, 1220, 1222, 33, 1223, 927, 928, 929, 930, 931, 932, 933, 1224, 1225, 1226, 1227, 934, 935, 936, 937, 938, 939, 940, 1228]) (by decide +kernel)
set_option maxRecDepth 100000 in
theorem in3_33 : ∀ w ∈ wsL_law0_r33, w ∈ lw_tb3 := mem_fm (ps := [1229, 1230, 1231, 942, 943, 944, 945, 946, 947, 948, 949, 950, 951, 952, 953, 954, 1232, 1233, 1234, 1235, 955, 956, 957, 958]) (by decide +kernel)
set_option maxRecDepth 100000 in
theorem in3_34 : ∀ w ∈ wsL_law0_r34, w ∈ lw_tb3 := mem_fm (ps := [959, 960, 961, 962, 964, 22, 965, 1236, 1237, 1238, 1239, 968, 969, 970, 971, 972, 973, 974, 1240, 1241, 1242, 1243, 975, 976]) (by decide +kernel)
set_option maxRecDepth 100000 in
theorem in3_35 : ∀ w ∈ wsL_law0_r35, w ∈ lw_tb3 := mem_fm (ps := [977, 978, 979, 980, 981, 983, 984, 985, 986, 987, 989, 23, 990, 991, 992, 993, 994, 1244, 1245, 1246, 1247, 995, 996, 997]) (by decide +kernel)
set_option maxRecDepth 100000 in
theorem in3_36 : ∀ w ∈ wsL_law0_r36, w ∈ lw_tb3 := mem_fm (ps := [998, 999, 1000, 1001, 1248, 1249, 1250, 1251, 1002, 1003, 1004, 1005, 1006, 1007, 1008, 866, 1010, 808, 809, 810, 811, 812, 813, 814]) (by decide +kernel)
set_option maxRecDepth 100000 in
theorem in3_37 : ∀ w ∈ wsL_law0_r37, w ∈ lw_tb3 := mem_fm (ps := [1011, 1012, 1013, 1014, 1015, 1016, 1017, 1018, 1019, 1020, 1021, 1022, 1023, 1024, 1025, 1252, 1253, 1254, 1255, 1059, 1256, 1258, 34, 1259]) (by decide +kernel)
set_option maxRecDepth 100000 in
theorem in3_38 : ∀ w ∈ wsL_law0_r38, w ∈ lw_tb3 := mem_fm (ps := [1260, 1262, 35, 1263]) (by decide +kernel)
set_option maxRecDepth 100000 in
theorem in3_X7 : ∀ w ∈ wsX70, w ∈ lw_tb3 := mem_fm (ps := [223, 225, 227, 229, 231, 233, 235, 237]) (by decide +kernel)
set_option maxRecDepth 100000 in
theorem in3_X8 : ∀ w ∈ wsX80, w ∈ lw_tb3 := mem_fm (ps := [1061, 1063, 1065, 1067, 1069, 1071, 1073, 1075, 1077, 1079, 1081, 1083, 1085, 1087, 1089, 1091, 1093, 1095, 1097, 1099, 1101, 1103, 1105, 1107, 1109, 1111, 1113, 1115, 1117]) (by decide +kernel)
set_option maxRecDepth 100000 in
theorem in3_JL : ∀ w ∈ wsJx4a65c0, w ∈ lw_tb3 := mem_fm (ps := [99, 95, 97]) (by decide +kernel)
set_option maxRecDepth 100000 in
theorem in3_X0 : ∀ w ∈ wsX00, w ∈ lw_tb3 := mem_fm (ps := [112, 114, 116]) (by decide +kernel)
set_option maxRecDepth 100000 in
theorem in3_X1 : ∀ w ∈ wsX10, w ∈ lw_tb3 := mem_fm (ps := [192, 194, 196, 198]) (by decide +kernel)
set_option maxRecDepth 100000 in
theorem in3_X2 : ∀ w ∈ wsX20, w ∈ lw_tb3 := mem_fm (ps := [212]) (by decide +kernel)
set_option maxRecDepth 100000 in
theorem in3_X6 : ∀ w ∈ wsX60, w ∈ lw_tb3 := mem_fm (ps := [356, 358, 360]) (by decide +kernel)
set_option maxRecDepth 100000 in
theorem in3_X4 : ∀ w ∈ wsX40, w ∈ lw_tb3 := mem_fm (ps := [586, 588, 590, 592, 594]) (by decide +kernel)
set_option maxRecDepth 100000 in
theorem in3_X3 : ∀ w ∈ wsX30, w ∈ lw_tb3 := mem_fm (ps := [500, 502, 504, 506, 508, 510, 512, 514]) (by decide +kernel)
set_option maxRecDepth 100000 in
theorem in3_X5 : ∀ w ∈ wsX50, w ∈ lw_tb3 := mem_fm (ps := [869, 871, 873, 875, 877, 879]) (by decide +kernel)
set_option maxRecDepth 100000 in
theorem in3_J4 : ∀ w ∈ wsJ40, w ∈ lw_tb3 := mem_fm (ps := [631, 633, 635, 637]) (by decide +kernel)
set_option maxRecDepth 100000 in
theorem in3_J0 : ∀ w ∈ wsJ00, w ∈ lw_tb3 := mem_fm (ps := [848, 850, 852, 854]) (by decide +kernel)
theorem ws0_in3 : ∀ w ∈ wsL_law0, w ∈ lw_tb3 := fun w h => (List.mem_append.mp h).elim (fun h => (List.mem_append.mp h).elim (fun h => (List.mem_append.mp h).elim (fun h => (List.mem_append.mp h).elim (fun h => (List.mem_append.mp h).elim (fun h => (List.mem_append.mp h).elim (fun h => (List.mem_append.mp h).elim (fun h => (List.mem_append.mp h).elim (fun h => (List.mem_append.mp h).elim (fun h => (List.mem_append.mp h).elim (fun h => (List.mem_append.mp h).elim (fun h => (List.mem_append.mp h).elim (fun h => (List.mem_append.mp h).elim (fun h => (List.mem_append.mp h).elim (fun h => in3_1 w h) (fun h => (List.mem_append.mp h).elim (fun h => in3_2 w h) (fun h => (List.mem_append.mp h).elim (fun h => in3_3 w h) (fun h => (List.mem_append.mp h).elim (fun h => in3_4 w h) (fun h => (List.mem_append.mp h).elim (fun h => in3_5 w h) (fun h => (List.mem_append.mp h).elim (fun h => in3_6 w h) (fun h => (List.mem_append.mp h).elim (fun h => in3_7 w h) (fun h => (List.mem_append.mp h).elim (fun h => in3_8 w h) (fun h => (List.mem_append.mp h).elim (fun h => in3_9 w h) (fun h => (List.mem_append.mp h).elim (fun h => in3_10 w h) (fun h => (List.mem_append.mp h).elim (fun h => in3_11 w h) (fun h => (List.mem_append.mp h).elim (fun h => in3_12 w h) (fun h => (List.mem_append.mp h).elim (fun h => in3_13 w h) (fun h => (List.mem_append.mp h).elim (fun h => in3_14 w h) (fun h => (List.mem_append.mp h).elim (fun h => in3_15 w h) (fun h => (List.mem_append.mp h).elim (fun h => in3_16 w h) (fun h => (List.mem_append.mp h).elim (fun h => in3_17 w h) (fun h => (List.mem_append.mp h).elim (fun h => in3_18 w h) (fun h => (List.mem_append.mp h).elim (fun h => in3_19 w h) (fun h => (List.mem_append.mp h).elim (fun h => in3_20 w h) (fun h => (List.mem_append.mp h).elim (fun h => in3_21 w h) (fun h => (List.mem_append.mp h).elim (fun h => in3_22 w h) (fun h => (List.mem_append.mp h).elim (fun h => in3_23 w h) (fun h => (List.mem_append.mp h).elim (fun h => in3_24 w h) (fun h => (List.mem_append.mp h).elim (fun h => in3_25 w h) (fun h => (List.mem_append.mp h).elim (fun h => in3_26 w h) (fun h => (List.mem_append.mp h).elim (fun h => in3_27 w h) (fun h => (List.mem_append.mp h).elim (fun h => in3_28 w h) (fun h => (List.mem_append.mp h).elim (fun h => in3_29 w h) (fun h => (List.mem_append.mp h).elim (fun h => in3_30 w h) (fun h => (List.mem_append.mp h).elim (fun h => in3_31 w h) (fun h => (List.mem_append.mp h).elim (fun h => in3_32 w h) (fun h => (List.mem_append.mp h).elim (fun h => in3_33 w h) (fun h => (List.mem_append.mp h).elim (fun h => in3_34 w h) (fun h => (List.mem_append.mp h).elim (fun h => in3_35 w h) (fun h => (List.mem_append.mp h).elim (fun h => in3_36 w h) (fun h => (List.mem_append.mp h).elim (fun h => in3_37 w h) (fun h => in3_38 w h)))))))))))))))))))))))))))))))))))))) (fun h => in3_X7 w h)) (fun h => in3_X8 w h)) (fun h => in3_JL w h)) (fun h => in3_X0 w h)) (fun h => in3_X1 w h)) (fun h => in3_X2 w h)) (fun h => in3_X6 w h)) (fun h => in3_X4 w h)) (fun h => in3_X3 w h)) (fun h => in3_X5 w h)) (fun h => in3_J4 w h)) (fun h => in3_J0 w h)) (fun h => absurd h List.not_mem_nil)
theorem ws_holds {args : Array Value} {s : State} (hts : ∀ w ∈ lw_tbl, w.before args s = true) : ∀ w ∈ wsL_law, w.before args s = true := fun w h => (List.mem_append.mp h).elim (fun h => (List.mem_append.mp h).elim (fun h => (List.mem_append.mp h).elim (fun h => tb3_hold hts w (ws0_in3 w h)) (fun h => hts w (wsL_law_x0 w h))) (fun h => hts w (wsL_law_x1 w h))) (fun h => hts w (wsL_law_x2 w h))
def nwD (nm : String) (f : Nat → Int32) : List Cond := (List.range 100).map (fun j => Cond.eq (.elem (.static "java/lang/Integer" nm "[B") (.int (Int32.ofNat j))) (.int (f j)))
def nwS : List Cond := [.isRef (.static Bundle.tN "UNASSIGNED_STACK" Bundle.steD), .isRef (.static Bundle.tN "SUPPRESSED_SENTINEL" Bundle.listD), .eq (.static "java/lang/String" "COMPACT_STRINGS" "Z") (.int 1), .arrayOf (.static "java/lang/Integer" "DigitOnes" "[B") .byte, .eq (.length (.static "java/lang/Integer" "DigitOnes" "[B")) (.int 100), .arrayOf (.static "java/lang/Integer" "DigitTens" "[B") .byte, .eq (.length (.static "java/lang/Integer" "DigitTens" "[B")) (.int 100), .arrayOf (.static "java/util/ArrayList" "DEFAULTCAPACITY_EMPTY_ELEMENTDATA" "[Ljava/lang/Object;") (.object "java/lang/Object"), .eq (.length (.static "java/util/ArrayList" "DEFAULTCAPACITY_EMPTY_ELEMENTDATA" "[Ljava/lang/Object;")) (.int 0), .isRef (.mirror "[Ljava/lang/Object;"), .isRef (.static "jdk/internal/util/Preconditions" "SIOOBE_FORMATTER" "Ljava/util/function/BiFunction;")]
def nwL : List Cond := nwS ++ (kNC.map (fun q => Cond.not (.castable q.1 q.2)) ++ (nwD "DigitOnes" (fun k => nI (48 + k % 10)) ++ nwD "DigitTens" (fun k => nI (48 + k / 10))))
set_option maxRecDepth 100000 in
theorem nw_1 : ∀ w ∈ nwS, w ∈ flatC (Jvm.Cond.and given_1 narrow_1) := mem_fm (ps := [8, 9, 10, 12, 13, 115, 116, 5, 7, 263, 217]) (by decide +kernel)
set_option maxRecDepth 100000 in
theorem nw_2 : ∀ w ∈ kNC.map (fun q => Cond.not (.castable q.1 q.2)), w ∈ flatC (Jvm.Cond.and given_1 narrow_1) := mem_fm (ps := [241, 255, 227, 256, 229, 243]) (by decide +kernel)
set_option maxRecDepth 100000 in
theorem nw_3 : ∀ w ∈ nwD "DigitOnes" (fun k => nI (48 + k % 10)), w ∈ flatC (Jvm.Cond.and given_1 narrow_1) := mem_fm (ps := [14, 15, 16, 17, 18, 19, 20, 21, 22, 23, 24, 25, 26, 27, 28, 29, 30, 31, 32, 33, 34, 35, 36, 37, 38, 39, 40, 41, 42, 43, 44, 45, 46, 47, 48, 49, 50, 51, 52, 53, 54, 55, 56, 57, 58, 59, 60, 61, 62, 63, 64, 65, 66, 67, 68, 69, 70, 71, 72, 73, 74, 75, 76, 77, 78, 79, 80, 81, 82, 83, 84, 85, 86, 87, 88, 89, 90, 91, 92, 93, 94, 95, 96, 97, 98, 99, 100, 101, 102, 103, 104, 105, 106, 107, 108, 109, 110, 111, 112, 113]) (by decide +kernel)
set_option maxRecDepth 100000 in
theorem nw_4 : ∀ w ∈ nwD "DigitTens" (fun k => nI (48 + k / 10)), w ∈ flatC (Jvm.Cond.and given_1 narrow_1) := mem_fm (ps := [117, 118, 119, 120, 121, 122, 123, 124, 125, 126, 127, 128, 129, 130, 131, 132, 133, 134, 135, 136, 137, 138, 139, 140, 141, 142, 143, 144, 145, 146, 147, 148, 149, 150, 151, 152, 153, 154, 155, 156, 157, 158, 159, 160, 161, 162, 163, 164, 165, 166, 167, 168, 169, 170, 171, 172, 173, 174, 175, 176, 177, 178, 179, 180, 181, 182, 183, 184, 185, 186, 187, 188, 189, 190, 191, 192, 193, 194, 195, 196, 197, 198, 199, 200, 201, 202, 203, 204, 205, 206, 207, 208, 209, 210, 211, 212, 213, 214, 215, 216]) (by decide +kernel)
theorem nw_in : ∀ w ∈ nwL, w ∈ flatC (Jvm.Cond.and given_1 narrow_1) := fun w h => (List.mem_append.mp h).elim (fun h => nw_1 w h) (fun h => (List.mem_append.mp h).elim (fun h => nw_2 w h) (fun h => (List.mem_append.mp h).elim (fun h => nw_3 w h) (fun h => nw_4 w h)))
def twL : List Cond := [.laysStatic "java/util/ArrayList" "DEFAULTCAPACITY_EMPTY_ELEMENTDATA" "[Ljava/lang/Object;", .initialized "java/util/ArrayList", .laysStatic Bundle.tN "UNASSIGNED_STACK" Bundle.steD, .laysStatic Bundle.tN "SUPPRESSED_SENTINEL" Bundle.listD, .initialized Bundle.tN, .laysStatic "java/lang/String" "COMPACT_STRINGS" "Z", .initialized "java/lang/String", .laysStatic "java/lang/Integer" "DigitOnes" "[B", .laysStatic "java/lang/Integer" "DigitTens" "[B", .initialized "java/lang/Integer", .laysStatic "jdk/internal/util/Preconditions" "SIOOBE_FORMATTER" "Ljava/util/function/BiFunction;", .initialized "jdk/internal/util/Preconditions", .arrayOver (.object "java/lang/Object"), .arrayClass .byte, .arrayClass .int, .arrayClass .boolean, .arrayClass .long]
set_option maxRecDepth 100000 in
theorem tw_in : ∀ w ∈ twL, w ∈ lw_tbl := mem_fm (ps := [86, 37, 276, 278, 46, 616, 60, 676, 678, 63, 692, 54, 168, 316, 198, 1117, 1261]) (by decide +kernel)
set_option maxRecDepth 100000 in
theorem bw_in : ∀ w ∈ kBW, w ∈ lw_tbl := mem_fm (ps := [251, 326, 374, 253, 255, 257, 1290, 1274, 1280, 1282, 1283, 1284, 665, 241]) (by decide +kernel)
set_option maxRecDepth 100000 in
theorem tx_in0 : ∀ w ∈ kTX.map (fun q => Cond.stringRef RX7 q.1 q.2), w ∈ lw_tbl := mem_fm (ps := [448, 466, 521, 546, 566, 567, 891, 892, 907, 938, 964, 979, 1006, 381, 445, 460, 963, 890, 290, 333, 472, 465]) (by decide +kernel)
theorem tx_in : ∀ q ∈ kTX, Cond.stringRef RX7 q.1 q.2 ∈ lw_tbl := fun q h => tx_in0 _ (List.mem_map.mpr ⟨q, h, rfl⟩)

