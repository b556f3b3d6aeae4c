/-! WHAT HOLDS AT THE LAW'S ENTRY -/
theorem wsL_law_x0 : ∀ w ∈ (vx_atS RX7 231 "java/lang/IllegalArgumentException" ["java/lang/RuntimeException", "java/lang/Exception"]).filter goodWord, w ∈ lw_tbl := by decide +kernel
theorem wsL_law_x1 : ∀ w ∈ (vx_atS RX7 100 "java/lang/IllegalStateException" ["java/lang/RuntimeException", "java/lang/Exception"]).filter goodWord, w ∈ lw_tbl := by decide +kernel
theorem wsL_law_x2 : ∀ w ∈ (vx_atS RX7 255 "java/lang/IndexOutOfBoundsException" ["java/lang/RuntimeException", "java/lang/Exception"]).filter goodWord, w ∈ lw_tbl := by decide +kernel
/-- what is private in the builder's superclass is selected of the builder too -/
def sb3 : List Cond := [.selects RJ4 yJ5_ensureCapacityInternal_d00df yJ5_ensureCapacityInternal_d00df, .selects RJ4 yJ5_newCapacity_0f7a4 yJ5_newCapacity_0f7a4, .selects RJ4 yJ5_inflate_da8c8 yJ5_inflate_da8c8]
def lw_tb3 : List Cond := sb3 ++ lw_tbl
theorem sel_sb {y z : MethodName} {s : State} {args : Array Value} {C : String} {n : Nat} (hy : y.cls ≠ "java/lang/invoke/MethodHandle" ∧ y.cls ≠ "java/lang/invoke/VarHandle") (hins : (Cond.instantiable C n).before args s = true) (hpriv : (Cond.privateMethod y).before args s = true) (hinst : (Cond.instanceMethod y).before args s = true) (hz : z.cls = y.cls) (h0 : (Cond.selects C z z).before args s = true) : (Cond.selects C y y).before args s = true := by
  obtain ⟨c, k, hc, hk, -, hniab, -, -⟩ := Cond.instantiable_spec hins
  obtain ⟨mk, methM, hnamed, hmethM, -, -⟩ := Cond.instanceMethod_spec hinst
  have hfound : s.methodFound? y.cls y.name y.desc = some mk := State.methodFound?_of_named hnamed hy
  have hsel : selectMethod {} s.vm c mk = .method mk := selectMethod_private hmethM (Cond.privateMethod_at hpriv mk methM hnamed hmethM)
  obtain ⟨c', r', m', -, -, hm', -, kk, hkk, hni⟩ := Cond.selects_spec h0
  have e : m'.cls = mk.cls := Option.some.inj ((findClass_of_methodNamed hm').symm.trans (by rw [hz]; exact findClass_of_methodNamed hnamed))
  rw [e] at hkk
  simp only [Cond.before, Cond.holds, Cond.value, hc, hfound, hnamed, hsel, hkk]
  simp; exact hni
def pvL : List Cond := [.instantiable RJ4 4, .privateMethod yJ5_ensureCapacityInternal_d00df, .instanceMethod yJ5_ensureCapacityInternal_d00df, .privateMethod yJ5_newCapacity_0f7a4, .instanceMethod yJ5_newCapacity_0f7a4, .privateMethod yJ5_inflate_da8c8, .instanceMethod yJ5_inflate_da8c8, .selects RJ4 yJ5_isLatin1_aae02 yJ5_isLatin1_aae02]
theorem mem_fm {α : Type} {big ws : List α} {ps : List Nat} (h : ws = ps.filterMap (fun i => big[i]?)) : ∀ w ∈ ws, w ∈ big := by
  intro w hw
  rw [h] at hw
  obtain ⟨i, -, hi⟩ := List.mem_filterMap.mp hw
  exact List.mem_of_getElem? hi
set_option maxRecDepth 100000 in
theorem pv_in : ∀ w ∈ pvL, w ∈ lw_tbl := mem_fm (ps := [573, 614, 615, 618, 619, 687, 688, 636]) (by decide +kernel)
theorem tb3_hold {args : Array Value} {s : State} (hts : ∀ w ∈ lw_tbl, w.before args s = true) : ∀ w ∈ lw_tb3, w.before args s = true := by
  have P : ∀ w ∈ pvL, w.before args s = true := fun w h => hts w (pv_in w h)
  have P0 := P _ (List.mem_of_getElem? (i := 0) rfl)
  have P7 := P _ (List.mem_of_getElem? (i := 7) rfl)
  intro w hw
  rcases List.mem_append.mp hw with h | h
  · simp only [sb3, List.mem_cons, List.not_mem_nil, or_false] at h
    rcases h with rfl | rfl | rfl
    · exact sel_sb (z := yJ5_isLatin1_aae02) (by decide +kernel) P0 (P _ (List.mem_of_getElem? (i := 1) rfl)) (P _ (List.mem_of_getElem? (i := 2) rfl)) rfl P7
    · exact sel_sb (z := yJ5_isLatin1_aae02) (by decide +kernel) P0 (P _ (List.mem_of_getElem? (i := 3) rfl)) (P _ (List.mem_of_getElem? (i := 4) rfl)) rfl P7
    · exact sel_sb (z := yJ5_isLatin1_aae02) (by decide +kernel) P0 (P _ (List.mem_of_getElem? (i := 5) rfl)) (P _ (List.mem_of_getElem? (i := 6) rfl)) rfl P7
  · exact hts w h
set_option maxRecDepth 100000 in
theorem in3_1 : ∀ w ∈ wsL_law0_r1, w ∈ lw_tb3 := mem_fm (ps := [55, 56, 25, 187, 935, 934, 997, 991, 936, 57, 58, 59, 60, 61, 62, 63, 64, 28, 201, 89, 90, 29, 202, 203]) (by decide +kernel)
set_option maxRecDepth 100000 in
theorem in3_2 : ∀ w ∈ wsL_law0_r2, w ∈ lw_tb3 := mem_fm (ps := [204, 205, 167, 168, 34, 206, 188, 189, 35, 207, 208, 65, 66, 67, 75, 77, 68, 69, 27, 70, 79, 71, 72, 26]) (by decide +kernel)
set_option maxRecDepth 100000 in
theorem in3_3 : ∀ w ∈ wsL_law0_r3, w ∈ lw_tb3 := mem_fm (ps := [73, 74, 91, 92, 93, 94, 95, 106, 107, 108, 109, 80, 81, 78, 110, 112, 3, 113, 114, 116, 4, 117, 118, 120]) (by decide +kernel)
set_option maxRecDepth 100000 in
theorem in3_4 : ∀ w ∈ wsL_law0_r4, w ∈ lw_tb3 := mem_fm (ps := [5, 121, 165, 126, 31, 127, 166, 122, 123, 30, 124, 125, 128, 129, 130, 131, 132, 133, 32, 134, 135, 1024, 136, 152]) (by decide +kernel)
set_option maxRecDepth 100000 in
theorem in3_5 : ∀ w ∈ wsL_law0_r5, w ∈ lw_tb3 := mem_fm (ps := [153, 154, 155, 156, 158, 159, 160, 161, 162, 164, 163, 33, 169, 170, 171, 172, 173, 174, 175, 190, 191, 192, 193, 197]) (by decide +kernel)
set_option maxRecDepth 100000 in
theorem in3_6 : ∀ w ∈ wsL_law0_r6, w ∈ lw_tb3 := mem_fm (ps := [194, 195, 196, 230, 231, 24, 232, 233, 236, 237, 238, 239, 334, 335, 41, 342, 240, 241, 242, 243, 39, 311, 312, 313]) (by decide +kernel)
set_option maxRecDepth 100000 in
theorem in3_7 : ∀ w ∈ wsL_law0_r7, w ∈ lw_tb3 := mem_fm (ps := [314, 315, 316, 317, 318, 40, 336, 337, 338, 339, 340, 343, 345, 354, 355, 356, 357, 344, 358, 360, 7, 361, 362, 42]) (by decide +kernel)
set_option maxRecDepth 100000 in
theorem in3_8 : ∀ w ∈ wsL_law0_r8, w ∈ lw_tb3 := mem_fm (ps := [334, 378, 379, 380, 381, 382, 383, 43, 384, 385, 386, 44, 387, 388, 389, 390, 391, 392, 394, 8, 395, 396, 554, 548]) (by decide +kernel)
set_option maxRecDepth 100000 in
theorem in3_9 : ∀ w ∈ wsL_law0_r9, w ∈ lw_tb3 := mem_fm (ps := [467, 97, 552, 397, 399, 9, 400, 476, 550, 473, 401, 403, 10, 404, 465, 405, 406, 407, 408, 409, 410, 411, 412, 413]) (by decide +kernel)
set_option maxRecDepth 100000 in
theorem in3_10 : ∀ w ∈ wsL_law0_r10, w ∈ lw_tb3 := mem_fm (ps := [414, 415, 416, 417, 418, 419, 420, 346, 421, 422, 423, 424, 430, 431, 425, 427, 11, 428, 89, 433, 434, 435, 436, 96]) (by decide +kernel)
set_option maxRecDepth 100000 in
theorem in3_11 : ∀ w ∈ wsL_law0_r11, w ∈ lw_tb3 := mem_fm (ps := [442, 454, 45, 463, 437, 439, 12, 440, 442, 443, 444, 445, 477, 448, 450, 13, 451, 452, 455, 456, 457, 458, 461, 464]) (by decide +kernel)
set_option maxRecDepth 100000 in
theorem in3_12 : ∀ w ∈ wsL_law0_r12, w ∈ lw_tb3 := mem_fm (ps := [466, 468, 470, 459, 472, 460, 495, 496, 497, 498, 177, 500, 501, 502, 503, 504, 505, 506, 507, 508, 510, 14, 511, 176]) (by decide +kernel)

