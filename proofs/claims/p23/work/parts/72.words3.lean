/-! the same, to the end -/
set_option maxRecDepth 100000 in
theorem in3_25 : ∀ w ∈ wsL_law0_r25, w ∈ lw_tb3 := mem_fm (ps := [882, 21, 883, 469, 884, 885, 886, 887, 888, 889, 890, 891, 893, 894, 895, 896, 897, 898, 899, 900, 901, 902, 903, 904]) (by decide +kernel)
set_option maxRecDepth 100000 in
theorem in3_26 : ∀ w ∈ wsL_law0_r26, w ∈ lw_tb3 := mem_fm (ps := [905, 906, 907, 909, 22, 910, 913, 914, 915, 916, 918, 919, 920, 921, 922, 924, 23, 925, 926, 927, 928, 929, 930, 931]) (by decide +kernel)
set_option maxRecDepth 100000 in
theorem in3_27_0 : ∀ w ∈ ([.selects RX7 yX7_taskOf yX7_taskOf, .code yX7_taskOf cX7_taskOf 2 (some .int), .methodLink RL 116 yL_part, .static yL_part, .code yL_part cL_part 4 (some .int), .constant RL 7 (2147483647), .methodLink RL 121 yL_isMessage, .static yL_isMessage] : List Cond), w ∈ lw_tb3 := mem_fm (ps := [932, 933, 226, 227, 228, 229, 983, 984]) (by decide +kernel)
set_option maxRecDepth 100000 in
theorem in3_27_1 : ∀ w ∈ ([.constant RL 101 (131072), .constant RL 110 (262144), .methodLink RL 79 yL_isGone, .static yL_isGone, .code yL_isGone cL_isGone 3 (some .boolean), .methodLink RL 85 yL_counted, .static yL_counted, .code yL_counted cL_counted 8 (some .int), .methodLink RL 125 yL_isSpend, .static yL_isSpend] : List Cond), w ∈ lw_tb3 := mem_fm (ps := [958, 986, 944, 945, 946, 947, 948, 949, 987, 988]) (by decide +kernel)
set_option maxRecDepth 100000 in
theorem in3_27_2 : ∀ w ∈ ([.constant RL 111 (1000003), .methodLink RL 90 yL_isApproved, .static yL_isApproved, .code yL_isApproved cL_isApproved 10 (some .boolean)] : List Cond), w ∈ lw_tb3 := mem_fm (ps := [990, 941, 942, 943]) (by decide +kernel)
set_option maxRecDepth 100000 in
theorem in3_27_c0 : (.code yL_isMessage cL_isMessage 19 (some .boolean) : Cond) ∈ lw_tb3 := List.mem_append_right _ (List.mem_append_right _ (show _ ∈ tables_1_1 ++ (tables_1_2 ++ (tables_1_3 ++ (tables_1_4 ++ tables_1_5))) from List.mem_append_right _ (List.mem_append_right _ (List.mem_append_right _ (List.mem_append_right _ ((List.mem_of_getElem? (i := 1) rfl : _ ∈ tables_1_5)))))))
set_option maxRecDepth 100000 in
theorem in3_27_c1 : (.code yL_isSpend cL_isSpend 22 (some .boolean) : Cond) ∈ lw_tb3 := List.mem_append_right _ (List.mem_append_right _ (show _ ∈ tables_1_1 ++ (tables_1_2 ++ (tables_1_3 ++ (tables_1_4 ++ tables_1_5))) from List.mem_append_right _ (List.mem_append_right _ (List.mem_append_right _ (List.mem_append_right _ ((List.mem_of_getElem? (i := 5) rfl : _ ∈ tables_1_5)))))))
theorem in3_27 : ∀ w ∈ wsL_law0_r27, w ∈ lw_tb3 := List.forall_mem_append.mpr ⟨in3_27_0, List.forall_mem_cons.mpr ⟨in3_27_c0, List.forall_mem_append.mpr ⟨in3_27_1, List.forall_mem_cons.mpr ⟨in3_27_c1, in3_27_2⟩⟩⟩⟩
set_option maxRecDepth 100000 in
theorem in3_28_0 : ∀ w ∈ ([.methodLink RL 129 yL_archived, .static yL_archived, .code yL_archived cL_archived 10 (some .int), .constant RL 113 (65535), .constant RL 114 (131071), .methodLink RL 133 yL_settles, .static yL_settles, .code yL_settles cL_settles 10 none, .constant RL 89 (65536), .methodLink RL 137 yL_isSo, .static yL_isSo] : List Cond), w ∈ lw_tb3 := mem_fm (ps := [992, 993, 994, 995, 996, 937, 938, 939, 940, 950, 951]) (by decide +kernel)
set_option maxRecDepth 100000 in
theorem in3_28_1 : ∀ w ∈ ([.constant RL 97 (1000000), .methodLink RL 98 yX7_left, .instanceMethod yX7_left, .selects RX7 yX7_left yX7_left, .code yX7_left cX7_left 2 (some .int), .methodLink RL 102 yL_reads, .static yL_reads, .code yL_reads cL_reads 8 (some .int), .methodLink RL 93 yX7_label, .instanceMethod yX7_label, .selects RX7 yX7_label yX7_label, .code yX7_label cX7_label 4 (some .char)] : List Cond), w ∈ lw_tb3 := mem_fm (ps := [953, 954, 955, 956, 957, 959, 960, 961, 962, 963, 964, 965]) (by decide +kernel)
set_option maxRecDepth 100000 in
theorem in3_28_c0 : (.code yL_isSo cL_isSo 20 (some .boolean) : Cond) ∈ lw_tb3 := List.mem_append_right _ (List.mem_append_right _ (show _ ∈ tables_1_1 ++ (tables_1_2 ++ (tables_1_3 ++ (tables_1_4 ++ tables_1_5))) from List.mem_append_right _ (List.mem_append_right _ (List.mem_append_right _ (List.mem_append_left _ (List.mem_of_getElem? (i := 208) rfl : _ ∈ tables_1_4))))))
theorem in3_28 : ∀ w ∈ wsL_law0_r28, w ∈ lw_tb3 := List.forall_mem_append.mpr ⟨in3_28_0, List.forall_mem_cons.mpr ⟨in3_28_c0, in3_28_1⟩⟩
set_option maxRecDepth 100000 in
theorem in3_29 : ∀ w ∈ wsL_law0_r29, w ∈ lw_tb3 := mem_fm (ps := [832, 967, 774, 775, 776, 777, 778, 779, 780, 968, 969, 970, 971, 972, 973, 974, 975, 976, 977, 978, 979, 980, 981, 982]) (by decide +kernel)
set_option maxRecDepth 100000 in
theorem in3_X7 : ∀ w ∈ wsX70, w ∈ lw_tb3 := mem_fm (ps := [209, 211, 213, 215, 217, 219, 221, 223]) (by decide +kernel)
set_option maxRecDepth 100000 in
theorem in3_JL : ∀ w ∈ wsJx4a65c0, w ∈ lw_tb3 := mem_fm (ps := [86, 82, 84]) (by decide +kernel)
set_option maxRecDepth 100000 in
theorem in3_X0 : ∀ w ∈ wsX00, w ∈ lw_tb3 := mem_fm (ps := [99, 101, 103]) (by decide +kernel)
set_option maxRecDepth 100000 in
theorem in3_X1 : ∀ w ∈ wsX10, w ∈ lw_tb3 := mem_fm (ps := [178, 180, 182, 184]) (by decide +kernel)
set_option maxRecDepth 100000 in
theorem in3_X2 : ∀ w ∈ wsX20, w ∈ lw_tb3 := mem_fm (ps := [198]) (by decide +kernel)
set_option maxRecDepth 100000 in
theorem in3_X6 : ∀ w ∈ wsX60, w ∈ lw_tb3 := mem_fm (ps := [347, 349, 351]) (by decide +kernel)
set_option maxRecDepth 100000 in
theorem in3_X4 : ∀ w ∈ wsX40, w ∈ lw_tb3 := mem_fm (ps := [555, 557, 559, 561, 563]) (by decide +kernel)
set_option maxRecDepth 100000 in
theorem in3_X3 : ∀ w ∈ wsX30, w ∈ lw_tb3 := mem_fm (ps := [478, 480, 482, 484, 486, 488, 490, 492]) (by decide +kernel)
set_option maxRecDepth 100000 in
theorem in3_X5 : ∀ w ∈ wsX50, w ∈ lw_tb3 := mem_fm (ps := [835, 837, 839, 841, 843, 845]) (by decide +kernel)
set_option maxRecDepth 100000 in
theorem in3_J4 : ∀ w ∈ wsJ40, w ∈ lw_tb3 := mem_fm (ps := [597, 599, 601, 603]) (by decide +kernel)
set_option maxRecDepth 100000 in
theorem in3_J0 : ∀ w ∈ wsJ00, w ∈ lw_tb3 := mem_fm (ps := [814, 816, 818, 820]) (by decide +kernel)
theorem ws0_in3 : ∀ w ∈ wsL_law0, w ∈ lw_tb3 := fun w h => (List.mem_append.mp h).elim (fun h => (List.mem_append.mp h).elim (fun h => (List.mem_append.mp h).elim (fun h => (List.mem_append.mp h).elim (fun h => (List.mem_append.mp h).elim (fun h => (List.mem_append.mp h).elim (fun h => (List.mem_append.mp h).elim (fun h => (List.mem_append.mp h).elim (fun h => (List.mem_append.mp h).elim (fun h => (List.mem_append.mp h).elim (fun h => (List.mem_append.mp h).elim (fun h => (List.mem_append.mp h).elim (fun h => (List.mem_append.mp h).elim (fun h => in3_1 w h) (fun h => (List.mem_append.mp h).elim (fun h => in3_2 w h) (fun h => (List.mem_append.mp h).elim (fun h => in3_3 w h) (fun h => (List.mem_append.mp h).elim (fun h => in3_4 w h) (fun h => (List.mem_append.mp h).elim (fun h => in3_5 w h) (fun h => (List.mem_append.mp h).elim (fun h => in3_6 w h) (fun h => (List.mem_append.mp h).elim (fun h => in3_7 w h) (fun h => (List.mem_append.mp h).elim (fun h => in3_8 w h) (fun h => (List.mem_append.mp h).elim (fun h => in3_9 w h) (fun h => (List.mem_append.mp h).elim (fun h => in3_10 w h) (fun h => (List.mem_append.mp h).elim (fun h => in3_11 w h) (fun h => (List.mem_append.mp h).elim (fun h => in3_12 w h) (fun h => (List.mem_append.mp h).elim (fun h => in3_13 w h) (fun h => (List.mem_append.mp h).elim (fun h => in3_14 w h) (fun h => (List.mem_append.mp h).elim (fun h => in3_15 w h) (fun h => (List.mem_append.mp h).elim (fun h => in3_16 w h) (fun h => (List.mem_append.mp h).elim (fun h => in3_17 w h) (fun h => (List.mem_append.mp h).elim (fun h => in3_18 w h) (fun h => (List.mem_append.mp h).elim (fun h => in3_19 w h) (fun h => (List.mem_append.mp h).elim (fun h => in3_20 w h) (fun h => (List.mem_append.mp h).elim (fun h => in3_21 w h) (fun h => (List.mem_append.mp h).elim (fun h => in3_22 w h) (fun h => (List.mem_append.mp h).elim (fun h => in3_23 w h) (fun h => (List.mem_append.mp h).elim (fun h => in3_24 w h) (fun h => (List.mem_append.mp h).elim (fun h => in3_25 w h) (fun h => (List.mem_append.mp h).elim (fun h => in3_26 w h) (fun h => (List.mem_append.mp h).elim (fun h => in3_27 w h) (fun h => (List.mem_append.mp h).elim (fun h => in3_28 w h) (fun h => in3_29 w h))))))))))))))))))))))))))))) (fun h => in3_X7 w h)) (fun h => in3_JL w h)) (fun h => in3_X0 w h)) (fun h => in3_X1 w h)) (fun h => in3_X2 w h)) (fun h => in3_X6 w h)) (fun h => in3_X4 w h)) (fun h => in3_X3 w h)) (fun h => in3_X5 w h)) (fun h => in3_J4 w h)) (fun h => in3_J0 w h)) (fun h => absurd h List.not_mem_nil)
theorem ws_holds {args : Array Value} {s : State} (hts : ∀ w ∈ lw_tbl, w.before args s = true) : ∀ w ∈ wsL_law, w.before args s = true := fun w h => (List.mem_append.mp h).elim (fun h => (List.mem_append.mp h).elim (fun h => (List.mem_append.mp h).elim (fun h => tb3_hold hts w (ws0_in3 w h)) (fun h => hts w (wsL_law_x0 w h))) (fun h => hts w (wsL_law_x1 w h))) (fun h => hts w (wsL_law_x2 w h))
def nwD (nm : String) (f : Nat → Int32) : List Cond := (List.range 100).map (fun j => Cond.eq (.elem (.static "java/lang/Integer" nm "[B") (.int (Int32.ofNat j))) (.int (f j)))
def nwS : List Cond := [.isRef (.static Bundle.tN "UNASSIGNED_STACK" Bundle.steD), .isRef (.static Bundle.tN "SUPPRESSED_SENTINEL" Bundle.listD), .eq (.static "java/lang/String" "COMPACT_STRINGS" "Z") (.int 1), .arrayOf (.static "java/lang/Integer" "DigitOnes" "[B") .byte, .eq (.length (.static "java/lang/Integer" "DigitOnes" "[B")) (.int 100), .arrayOf (.static "java/lang/Integer" "DigitTens" "[B") .byte, .eq (.length (.static "java/lang/Integer" "DigitTens" "[B")) (.int 100), .arrayOf (.static "java/util/ArrayList" "DEFAULTCAPACITY_EMPTY_ELEMENTDATA" "[Ljava/lang/Object;") (.object "java/lang/Object"), .eq (.length (.static "java/util/ArrayList" "DEFAULTCAPACITY_EMPTY_ELEMENTDATA" "[Ljava/lang/Object;")) (.int 0), .isRef (.mirror "[Ljava/lang/Object;"), .isRef (.static "jdk/internal/util/Preconditions" "SIOOBE_FORMATTER" "Ljava/util/function/BiFunction;")]
def nwL : List Cond := nwS ++ (kNC.map (fun q => Cond.not (.castable q.1 q.2)) ++ (nwD "DigitOnes" (fun k => nI (48 + k % 10)) ++ nwD "DigitTens" (fun k => nI (48 + k / 10))))
set_option maxRecDepth 100000 in
theorem nw_1 : ∀ w ∈ nwS, w ∈ flatC (Jvm.Cond.and given_1 narrow_1) := mem_fm (ps := [8, 9, 10, 12, 13, 115, 116, 5, 7, 260, 217]) (by decide +kernel)
set_option maxRecDepth 100000 in
theorem nw_2 : ∀ w ∈ kNC.map (fun q => Cond.not (.castable q.1 q.2)), w ∈ flatC (Jvm.Cond.and given_1 narrow_1) := mem_fm (ps := [252, 226, 239, 227, 241, 254]) (by decide +kernel)
set_option maxRecDepth 100000 in
theorem nw_3 : ∀ w ∈ nwD "DigitOnes" (fun k => nI (48 + k % 10)), w ∈ flatC (Jvm.Cond.and given_1 narrow_1) := mem_fm (ps := [14, 15, 16, 17, 18, 19, 20, 21, 22, 23, 24, 25, 26, 27, 28, 29, 30, 31, 32, 33, 34, 35, 36, 37, 38, 39, 40, 41, 42, 43, 44, 45, 46, 47, 48, 49, 50, 51, 52, 53, 54, 55, 56, 57, 58, 59, 60, 61, 62, 63, 64, 65, 66, 67, 68, 69, 70, 71, 72, 73, 74, 75, 76, 77, 78, 79, 80, 81, 82, 83, 84, 85, 86, 87, 88, 89, 90, 91, 92, 93, 94, 95, 96, 97, 98, 99, 100, 101, 102, 103, 104, 105, 106, 107, 108, 109, 110, 111, 112, 113]) (by decide +kernel)
set_option maxRecDepth 100000 in
theorem nw_4 : ∀ w ∈ nwD "DigitTens" (fun k => nI (48 + k / 10)), w ∈ flatC (Jvm.Cond.and given_1 narrow_1) := mem_fm (ps := [117, 118, 119, 120, 121, 122, 123, 124, 125, 126, 127, 128, 129, 130, 131, 132, 133, 134, 135, 136, 137, 138, 139, 140, 141, 142, 143, 144, 145, 146, 147, 148, 149, 150, 151, 152, 153, 154, 155, 156, 157, 158, 159, 160, 161, 162, 163, 164, 165, 166, 167, 168, 169, 170, 171, 172, 173, 174, 175, 176, 177, 178, 179, 180, 181, 182, 183, 184, 185, 186, 187, 188, 189, 190, 191, 192, 193, 194, 195, 196, 197, 198, 199, 200, 201, 202, 203, 204, 205, 206, 207, 208, 209, 210, 211, 212, 213, 214, 215, 216]) (by decide +kernel)
theorem nw_in : ∀ w ∈ nwL, w ∈ flatC (Jvm.Cond.and given_1 narrow_1) := fun w h => (List.mem_append.mp h).elim (fun h => nw_1 w h) (fun h => (List.mem_append.mp h).elim (fun h => nw_2 w h) (fun h => (List.mem_append.mp h).elim (fun h => nw_3 w h) (fun h => nw_4 w h)))
def twL : List Cond := [.laysStatic "java/util/ArrayList" "DEFAULTCAPACITY_EMPTY_ELEMENTDATA" "[Ljava/lang/Object;", .initialized "java/util/ArrayList", .laysStatic Bundle.tN "UNASSIGNED_STACK" Bundle.steD, .laysStatic Bundle.tN "SUPPRESSED_SENTINEL" Bundle.listD, .initialized Bundle.tN, .laysStatic "java/lang/String" "COMPACT_STRINGS" "Z", .initialized "java/lang/String", .laysStatic "java/lang/Integer" "DigitOnes" "[B", .laysStatic "java/lang/Integer" "DigitTens" "[B", .initialized "java/lang/Integer", .laysStatic "jdk/internal/util/Preconditions" "SIOOBE_FORMATTER" "Ljava/util/function/BiFunction;", .initialized "jdk/internal/util/Preconditions", .arrayOver (.object "java/lang/Object"), .arrayClass .byte, .arrayClass .int]
set_option maxRecDepth 100000 in
theorem tw_in : ∀ w ∈ twL, w ∈ lw_tbl := mem_fm (ps := [73, 25, 267, 269, 33, 582, 47, 642, 644, 50, 658, 41, 154, 307, 184]) (by decide +kernel)
set_option maxRecDepth 100000 in
theorem bw_in : ∀ w ∈ kBW, w ∈ lw_tbl := mem_fm (ps := [242, 317, 361, 244, 246, 248, 1022, 1007, 1012, 1014, 1015, 1016, 631, 232, 231]) (by decide +kernel)
set_option maxRecDepth 100000 in
theorem tx_in0 : ∀ w ∈ kTX.map (fun q => Cond.stringRef RX7 q.1 q.2), w ∈ lw_tbl := mem_fm (ps := [429, 444, 496, 518, 535, 536, 854, 855, 864, 889, 909, 914, 963, 368, 426, 438, 908, 853, 281, 324, 450, 443]) (by decide +kernel)
theorem tx_in : ∀ q ∈ kTX, Cond.stringRef RX7 q.1 q.2 ∈ lw_tbl := fun q h => tx_in0 _ (List.mem_map.mpr ⟨q, h, rfl⟩)

