/-! THE LAW: holds, the archive, hours -/
set_option maxHeartbeats 4000000 in
set_option maxRecDepth 100000 in
theorem a_hold {p : Program} {l : Launch} {e : Env} {s : State} {m : MethodId} {below : List Frame} {meth : Method} {c : Code} {E : State} {G : kG} {o : Int64} {Q : State → Prop} {b i : Nat} {S T : kSt} {ad : kAd} {x1 x2 wq uq : Nat} (hE : kE l E G) (Z : kZ p m c code 24 s #[Value.ref b] wsL_law RL E G) (hi : i < 64) (hx1 : x1 < 60000) (hx2 : x2 < 60000) (hwq : wq < 32) (hI : Iv i S T) (huq : uq ≤ S.2 0 0) (K : lwF p l e s m below meth c E G b i x1 o Q) : ∀ (H : Heap) (locs : List Loc) (ls : Array Slot), kX E G s H locs ad (cto G S T o ad) → lv_has ls 24 [(0, .ref b), (1, .ref (ad 0 0)), (2, .ref (ad 17 0)), (3, .ref (ad 17 1)), (4, .ref (ad 17 2)), (5, .ref (ad 17 3)), (6, .ref (ad 17 4)), (7, .ref (ad 17 5)), (8, .ref (ad 17 6)), (9, .ref (ad 17 7)), (10, .ref (ad 17 8)), (11, .ref (ad 17 9)), (12, .ref (ad 17 10)), (13, .int 1), (14, .int (nI i)), (15, .int (nI wq)), (16, .int (nI x1)), (17, .int (nI x2)), (18, .int (nI uq)), (19, .int (bI (decide (uq < S.2 0 0))))] → W p l e room_1 s m #[Value.ref b] below meth c H locs (1100 * i + 200) (8000 * i + 9000) Q (F0 m 963 ls []) := by
  intro H locs ls X hl
  have hx := Z.1.1
  have hb := Z.1.2.1
  have hT := hI.lt
  obtain ⟨hS, hL, hK9, hLg, hRp, hlog9, hB⟩ := hI.1.ok
  have hN := hS
  have hlog : S.2 0 4 < 512 := by omega
  obtain ⟨hc0, hc1, hc2, hc3⟩ := hT.c
  obtain ⟨ch, ech⟩ : ∃ y, y = x2 % 7 := ⟨_, rfl⟩
  have hch7 : ch < 7 := by rw [ech]; exact Nat.mod_lt _ (by decide)
  refine lv_iload hx hb dL_law_963 (lv_at hl 17 rfl) ?_
  refine lv_bipush (v := 7) hx hb dL_law_965 (by decide) ?_
  refine lv_irem hx hb dL_law_967 (by decide) ?_
  refine lv_topi (fun x_967 e_967 => ?_)
  obtain rfl : x_967 = nI (x2 % 7) := e_967.trans ((pk_rem (a := x2) (d := 7) (by omega) (by omega) (by omega)))
  refine lv_topi (fun x_967 e_967 => ?_)
  obtain rfl : x_967 = nI ch := e_967.trans (congrArg nI ech.symm)
  refine lv_istore (lv' := [(20, .int (nI ch)), (0, .ref b), (1, .ref (ad 0 0)), (2, .ref (ad 17 0)), (3, .ref (ad 17 1)), (4, .ref (ad 17 2)), (5, .ref (ad 17 3)), (6, .ref (ad 17 4)), (7, .ref (ad 17 5)), (8, .ref (ad 17 6)), (9, .ref (ad 17 7)), (10, .ref (ad 17 8)), (11, .ref (ad 17 9)), (12, .ref (ad 17 10)), (13, .int 1), (14, .int (nI i)), (15, .int (nI wq)), (16, .int (nI x1)), (17, .int (nI x2)), (18, .int (nI uq)), (19, .int (bI (decide (uq < S.2 0 0))))]) hx hb dL_law_968 hl (by decide) rfl (fun ls hl => ?_)
  refine lv_aload hx hb dL_law_970 (lv_at hl 8 rfl) ?_
  refine lv_bipush (v := 8) hx hb dL_law_972 (by decide) ?_
  refine lv_iload hx hb dL_law_974 (lv_at hl 0 rfl) ?_
  refine lv_iadd hx hb dL_law_976 ?_
  refine lv_topi (fun x_976 e_976 => ?_)
  obtain rfl : x_976 = nI (8 + ch) := e_976.trans (nI_add 8 ch)
  refine lv_iload hx hb dL_law_977 (lv_at hl 0 rfl) ?_
  refine lv_bipush (v := 6) hx hb dL_law_979 (by decide) ?_
  refine lv_icmp_ge (tgt := 997) hx hb dL_law_981 (by decide) (fun c_981 => ?_) (fun c_981 => ?_)
  · have c_981 : 6 ≤ ch := (nI_leI (a := 6) (b := ch) (by omega) (by omega)).mp c_981
    refine lv_iconst (v := 0) hx hb dL_law_997 (by decide) ?_
    refine k_ist (ad := ad) (k := 17) (i := 5) Z X ct_17_5 (vp_in_nI (n := (8 + ch)) (by first | assumption | omega) (by decide)) dL_law_998 (fun H locs X => ?_)
    have X : kX E G s H locs ad (cto G S (sI T 6 (8 + ch) 0) o ad) := X.eq (st_17 (a := 5) (by decide) (8 + ch) _ (by omega))
    refine lv_aload_n hx hb dL_law_999 rfl (lv_at hl 2 rfl) ?_
    refine lv_bipush (v := 10) hx hb dL_law_1000 (by decide) ?_
    refine lv_iload hx hb dL_law_1002 (lv_at hl 0 rfl) ?_
    refine lv_iconst (v := 0) hx hb dL_law_1004 (by decide) ?_
    refine lv_iconst (v := 0) hx hb dL_law_1005 (by decide) ?_
    refine lv_iconst (v := 0) hx hb dL_law_1006 (by decide) ?_
    refine k_xRi X (k_xrunSW (As := [.ref (ad 0 0), .int 10, .int (nI ch), .int 0, .int 0, .int 0]) (rest := []) Z X (c_L_does_10 l E G S (sI T 6 (8 + ch) 0) o ad (nI ch) 0 0 0 hE hS hL) (k_cwSW 6 Z.1.2.2.2.2 (inU_6 _ (List.mem_of_getElem? (i := 3) rfl)) (inU_6 _ (List.mem_of_getElem? (i := 4) rfl)) (inU_6 _ (List.mem_of_getElem? (i := 5) rfl)) (inU_6 _ (List.mem_of_getElem? (i := 6) rfl)) rfl rfl (by decide +kernel) ⟨(Nat.le_of_ble_eq_true rfl), (Nat.le_of_ble_eq_true rfl)⟩) rfl hl.1 rfl (Nat.le_of_ble_eq_true rfl) dL_law_1007 ⟨(by first | exact rm_c (by omega) | exact rm_s (by omega)), (by first | exact rm_c (by omega) | exact rm_s (by omega))⟩) (fun _ _ _ _ _ _ _ hp => hp.elim) (fun r_1007 ad1 ct1 H locs hp X => ?_)
    have hC : cHold (nI ch) = 1 := by rw [cHold_v (by omega), if_neg (show ¬ ch < 6 by omega)]
    obtain ⟨ha_, hq⟩ := hp
    rcases hq with ⟨z, -⟩ | ⟨z, hr_, hb_⟩ | ⟨z, -⟩ | ⟨z, -⟩
    case inl => exact absurd (hC.symm.trans z) (by decide)
    case inr.inr.inl => exact absurd (hC.symm.trans z) (by decide)
    case inr.inr.inr => exact absurd (hC.symm.trans z) (by decide)
    subst hr_
    rw [hb_, ← ha_] at X
    refine lv_iload hx hb dL_law_1010 (lv_at hl 0 rfl) ?_
    refine lv_bipush (v := 6) hx hb dL_law_1012 (by decide) ?_
    refine lv_icmp_ne (tgt := 1022) hx hb dL_law_1014 (by decide) (fun c_1014 => ?_) (fun c_1014 => ?_)
    · exact absurd (congrArg nI (show ch = 6 by omega)) c_1014
    · refine lv_ldc (v := (-3000000)) hx hb Z.1.2.2.2.1 (Z.1.2.2.2.2 _ (inU_1 _ (List.mem_of_getElem? (i := 5) rfl))) dL_law_1017 ?_
      refine lv_goto (tgt := 1030) hx hb dL_law_1019 (by decide) ?_
      refine lv_icmp_ne (tgt := 1037) hx hb dL_law_1030 (by decide) (fun c_1030 => ?_) (fun c_1030 => ?_)
      · exact absurd rfl c_1030
      · refine lv_iconst (v := 1) hx hb dL_law_1033 (by decide) ?_
        refine lv_goto (tgt := 1038) hx hb dL_law_1034 (by decide) ?_
        refine lv_istore (lv' := [(13, .int 1), (20, .int (nI ch)), (0, .ref b), (1, .ref (ad 0 0)), (2, .ref (ad 17 0)), (3, .ref (ad 17 1)), (4, .ref (ad 17 2)), (5, .ref (ad 17 3)), (6, .ref (ad 17 4)), (7, .ref (ad 17 5)), (8, .ref (ad 17 6)), (9, .ref (ad 17 7)), (10, .ref (ad 17 8)), (11, .ref (ad 17 9)), (12, .ref (ad 17 10)), (14, .int (nI i)), (15, .int (nI wq)), (16, .int (nI x1)), (17, .int (nI x2)), (18, .int (nI uq)), (19, .int (bI (decide (uq < S.2 0 0))))]) hx hb dL_law_1038 hl (by decide) rfl (fun ls hl => ?_)
        refine lv_goto (tgt := 1231) hx hb dL_law_1040 (by decide) ?_
        refine W.widen (k := 1100 * i + 240) (n := 8000 * i + 10000) (by omega) (by omega) ?_
        exact K _ _ _ _ _ _ ((hI.bx (Or.inr (by omega)) _).mid (by omega)) X (lv_sub hl [2, 3, 4, 5, 6, 7, 8, 9, 10, 11, 12, 13, 14, 0, 15, 17] rfl)
  · have c_981 : ¬ 6 ≤ ch := fun h => c_981 ((nI_leI (a := 6) (b := ch) (by omega) (by omega)).mpr h)
    refine lv_iconst (v := 1) hx hb dL_law_984 (by decide) ?_
    refine lv_aload hx hb dL_law_985 (lv_at hl 8 rfl) ?_
    refine lv_bipush (v := 8) hx hb dL_law_987 (by decide) ?_
    refine lv_iload hx hb dL_law_989 (lv_at hl 0 rfl) ?_
    refine lv_iadd hx hb dL_law_991 ?_
    refine lv_topi (fun x_991 e_991 => ?_)
    obtain rfl : x_991 = nI (8 + ch) := e_991.trans (nI_add 8 ch)
    refine k_ild (ad := ad) (k := 17) (i := 5) Z X ct_17_5 (vp_in_nI (n := (8 + ch)) (by first | assumption | omega) (by decide)) dL_law_992 ?_
    refine lv_topi (fun x_992 e_992 => ?_)
    obtain rfl : x_992 = T.1 6 (8 + ch) := e_992.trans (by first | (simp only [nI_clamp (show 8 + ch < 2 ^ 31 by omega)]; done) | rfl | (simp only [nI_clamp (show 8 + ch < 2 ^ 31 by omega)]; rfl) | (simp only [nI_clamp (show 8 + ch < 2 ^ 31 by omega)]; simp [sI, sN]; done))
    refine lv_topi (fun x_992 e_992 => ?_)
    obtain rfl : x_992 = S.1 4 ch := e_992.trans (hT.o (by omega))
    refine lv_isub hx hb dL_law_993 ?_
    refine lv_topi (fun x_993 e_993 => ?_)
    obtain rfl : x_993 = bI (decide (S.1 4 ch = 0)) := e_993.trans (hold_sub (hT.2.2.2.2.2.1 ch (by omega)).2.2)
    refine lv_goto (tgt := 998) hx hb dL_law_994 (by decide) ?_
    refine k_ist (ad := ad) (k := 17) (i := 5) Z X ct_17_5 (vp_in_nI (n := (8 + ch)) (by first | assumption | omega) (by decide)) dL_law_998 (fun H locs X => ?_)
    have X : kX E G s H locs ad (cto G S (sI T 6 (8 + ch) (bI (decide (S.1 4 ch = 0)))) o ad) := X.eq (st_17 (a := 5) (by decide) (8 + ch) _ (by omega))
    refine lv_aload_n hx hb dL_law_999 rfl (lv_at hl 2 rfl) ?_
    refine lv_bipush (v := 10) hx hb dL_law_1000 (by decide) ?_
    refine lv_iload hx hb dL_law_1002 (lv_at hl 0 rfl) ?_
    refine lv_iconst (v := 0) hx hb dL_law_1004 (by decide) ?_
    refine lv_iconst (v := 0) hx hb dL_law_1005 (by decide) ?_
    refine lv_iconst (v := 0) hx hb dL_law_1006 (by decide) ?_
    refine k_xRi X (k_xrunSW (As := [.ref (ad 0 0), .int 10, .int (nI ch), .int 0, .int 0, .int 0]) (rest := []) Z X (c_L_does_10 l E G S (sI T 6 (8 + ch) (bI (decide (S.1 4 ch = 0)))) o ad (nI ch) 0 0 0 hE hS hL) (k_cwSW 6 Z.1.2.2.2.2 (inU_6 _ (List.mem_of_getElem? (i := 3) rfl)) (inU_6 _ (List.mem_of_getElem? (i := 4) rfl)) (inU_6 _ (List.mem_of_getElem? (i := 5) rfl)) (inU_6 _ (List.mem_of_getElem? (i := 6) rfl)) rfl rfl (by decide +kernel) ⟨(Nat.le_of_ble_eq_true rfl), (Nat.le_of_ble_eq_true rfl)⟩) rfl hl.1 rfl (Nat.le_of_ble_eq_true rfl) dL_law_1007 ⟨(by first | exact rm_c (by omega) | exact rm_s (by omega)), (by first | exact rm_c (by omega) | exact rm_s (by omega))⟩) (fun _ _ _ _ _ _ _ hp => hp.elim) (fun r_1007 ad1 ct1 H locs hp X => ?_)
    have hC : cHold (nI ch) = 0 := by rw [cHold_v (by omega), if_pos (show ch < 6 by omega)]
    obtain ⟨ha_, hq⟩ := hp
    rcases hq with ⟨z, hr_, S1, hS1, hb_⟩ | ⟨z, -⟩ | ⟨z, -⟩ | ⟨z, -⟩
    case inr.inl => exact absurd (hC.symm.trans z) (by decide)
    case inr.inr.inl => exact absurd (hC.symm.trans z) (by decide)
    case inr.inr.inr => exact absurd (hC.symm.trans z) (by decide)
    subst hr_
    rw [hb_, ← ha_, show S1 = (oHold S (nI ch)) from hS1] at X
    refine lv_topi (fun y_1007 f_1007 => ?_)
    obtain rfl : y_1007 = bI (decide (S.1 4 ch = 0)) := f_1007.trans (by rw [vHold, cl_n (show ch < 2 ^ 31 by omega)])
    refine lv_iload hx hb dL_law_1010 (lv_at hl 0 rfl) ?_
    refine lv_bipush (v := 6) hx hb dL_law_1012 (by decide) ?_
    refine lv_icmp_ne (tgt := 1022) hx hb dL_law_1014 (by decide) (fun c_1014 => ?_) (fun c_1014 => ?_)
    · refine lv_aload hx hb dL_law_1022 (lv_at hl 8 rfl) ?_
      refine lv_bipush (v := 8) hx hb dL_law_1024 (by decide) ?_
      refine lv_iload hx hb dL_law_1026 (lv_at hl 0 rfl) ?_
      refine lv_iadd hx hb dL_law_1028 ?_
      refine lv_topi (fun x_1028 e_1028 => ?_)
      obtain rfl : x_1028 = nI (8 + ch) := e_1028.trans (nI_add 8 ch)
      refine k_ild (ad := ad) (k := 17) (i := 5) Z X ct_17_5 (vp_in_nI (n := (8 + ch)) (by first | assumption | omega) (by decide)) dL_law_1029 ?_
      refine lv_topi (fun x_1029 e_1029 => ?_)
      obtain rfl : x_1029 = bI (decide (S.1 4 ch = 0)) := e_1029.trans (by first | (simp only [nI_clamp (show 8 + ch < 2 ^ 31 by omega)]; done) | rfl | (simp only [nI_clamp (show 8 + ch < 2 ^ 31 by omega)]; rfl) | (simp only [nI_clamp (show 8 + ch < 2 ^ 31 by omega)]; simp [sI, sN]; done))
      refine lv_icmp_ne (tgt := 1037) hx hb dL_law_1030 (by decide) (fun c_1030 => ?_) (fun c_1030 => ?_)
      · exact absurd rfl c_1030
      · refine lv_iconst (v := 1) hx hb dL_law_1033 (by decide) ?_
        refine lv_goto (tgt := 1038) hx hb dL_law_1034 (by decide) ?_
        refine lv_istore (lv' := [(13, .int 1), (20, .int (nI ch)), (0, .ref b), (1, .ref (ad 0 0)), (2, .ref (ad 17 0)), (3, .ref (ad 17 1)), (4, .ref (ad 17 2)), (5, .ref (ad 17 3)), (6, .ref (ad 17 4)), (7, .ref (ad 17 5)), (8, .ref (ad 17 6)), (9, .ref (ad 17 7)), (10, .ref (ad 17 8)), (11, .ref (ad 17 9)), (12, .ref (ad 17 10)), (14, .int (nI i)), (15, .int (nI wq)), (16, .int (nI x1)), (17, .int (nI x2)), (18, .int (nI uq)), (19, .int (bI (decide (uq < S.2 0 0))))]) hx hb dL_law_1038 hl (by decide) rfl (fun ls hl => ?_)
        refine lv_goto (tgt := 1231) hx hb dL_law_1040 (by decide) ?_
        refine W.widen (k := 1100 * i + 240) (n := 8000 * i + 10000) (by omega) (by omega) ?_
        exact K _ _ _ _ _ _ (Mid.hold hI (show ch < 6 by omega)) X (lv_sub hl [2, 3, 4, 5, 6, 7, 8, 9, 10, 11, 12, 13, 14, 0, 15, 17] rfl)
    · exact absurd ((nI_eq (a := ch) (b := 6) (by omega) (by omega)).mp c_1014) (by omega)
set_option maxHeartbeats 4000000 in
set_option maxRecDepth 100000 in
theorem a_arch {p : Program} {l : Launch} {e : Env} {s : State} {m : MethodId} {below : List Frame} {meth : Method} {c : Code} {E : State} {G : kG} {o : Int64} {Q : State → Prop} {b i : Nat} {S T : kSt} {ad : kAd} {x1 x2 wq uq : Nat} (hE : kE l E G) (Z : kZ p m c code 24 s #[Value.ref b] wsL_law RL E G) (hi : i < 64) (hx1 : x1 < 60000) (hx2 : x2 < 60000) (hwq : wq < 32) (hI : Iv i S T) (huq : uq ≤ S.2 0 0) (K : lwF p l e s m below meth c E G b i x1 o Q) : ∀ (H : Heap) (locs : List Loc) (ls : Array Slot), kX E G s H locs ad (cto G S T o ad) → lv_has ls 24 [(0, .ref b), (1, .ref (ad 0 0)), (2, .ref (ad 17 0)), (3, .ref (ad 17 1)), (4, .ref (ad 17 2)), (5, .ref (ad 17 3)), (6, .ref (ad 17 4)), (7, .ref (ad 17 5)), (8, .ref (ad 17 6)), (9, .ref (ad 17 7)), (10, .ref (ad 17 8)), (11, .ref (ad 17 9)), (12, .ref (ad 17 10)), (13, .int 1), (14, .int (nI i)), (15, .int (nI wq)), (16, .int (nI x1)), (17, .int (nI x2)), (18, .int (nI uq)), (19, .int (bI (decide (uq < S.2 0 0))))] → W p l e room_1 s m #[Value.ref b] below meth c H locs (1100 * i + 200) (8000 * i + 9000) Q (F0 m 1050 ls []) := by
  intro H locs ls X hl
  have hx := Z.1.1
  have hb := Z.1.2.1
  have hT := hI.lt
  obtain ⟨hS, hL, hK9, hLg, hRp, hlog9, hB⟩ := hI.1.ok
  have hN := hS
  have hlog : S.2 0 4 < 512 := by omega
  obtain ⟨hc0, hc1, hc2, hc3⟩ := hT.c
  obtain ⟨ch, ech⟩ : ∃ y, y = chA x2 := ⟨_, rfl⟩
  have hch7 : ch < 7 := by rw [ech]; exact chA_lt x2
  obtain ⟨hr0, hhr, ehr⟩ := hI.hrs (by omega)
  have M_1067 : ∀ (H : Heap) (locs : List Loc), kX E G s H locs ad (cto G S T o ad) → W p l e room_1 s m #[Value.ref b] below meth c H locs (1100 * i + 200) (8000 * i + 9000) Q (F0 m 1067 ls [.int (nI ch)]) := by
    intro H locs X
    refine lv_istore (lv' := [(20, .int (nI ch)), (0, .ref b), (1, .ref (ad 0 0)), (2, .ref (ad 17 0)), (3, .ref (ad 17 1)), (4, .ref (ad 17 2)), (5, .ref (ad 17 3)), (6, .ref (ad 17 4)), (7, .ref (ad 17 5)), (8, .ref (ad 17 6)), (9, .ref (ad 17 7)), (10, .ref (ad 17 8)), (11, .ref (ad 17 9)), (12, .ref (ad 17 10)), (13, .int 1), (14, .int (nI i)), (15, .int (nI wq)), (16, .int (nI x1)), (17, .int (nI x2)), (18, .int (nI uq)), (19, .int (bI (decide (uq < S.2 0 0))))]) hx hb dL_law_1067 hl (by decide) rfl (fun ls hl => ?_)
    cases h6 : decide (ch = 6) with
    | false =>
      have hc6 : ch < 6 := by have := of_decide_eq_false h6; omega
      cases h4 : decide (S.1 4 ch = 0) with
      | false =>
        refine lv_aload_n hx hb dL_law_1069 rfl (lv_at hl 2 rfl) ?_
        refine lv_bipush (v := 11) hx hb dL_law_1070 (by decide) ?_
        refine lv_iload hx hb dL_law_1072 (lv_at hl 0 rfl) ?_
        refine lv_iconst (v := 0) hx hb dL_law_1074 (by decide) ?_
        refine lv_iconst (v := 0) hx hb dL_law_1075 (by decide) ?_
        refine lv_iconst (v := 0) hx hb dL_law_1076 (by decide) ?_
        refine k_xRi X (k_xrunSW (As := [.ref (ad 0 0), .int 11, .int (nI ch), .int 0, .int 0, .int 0]) (rest := []) Z X (c_L_does_11 l E G S T o ad (nI ch) 0 0 0 hE hS hL) (k_cwSW 6 Z.1.2.2.2.2 (inU_6 _ (List.mem_of_getElem? (i := 3) rfl)) (inU_6 _ (List.mem_of_getElem? (i := 4) rfl)) (inU_6 _ (List.mem_of_getElem? (i := 5) rfl)) (inU_6 _ (List.mem_of_getElem? (i := 6) rfl)) rfl rfl (by decide +kernel) ⟨(Nat.le_of_ble_eq_true rfl), (Nat.le_of_ble_eq_true rfl)⟩) rfl hl.1 rfl (Nat.le_of_ble_eq_true rfl) dL_law_1077 ⟨(by first | exact rm_c (by omega) | exact rm_s (by omega)), (by first | exact rm_c (by omega) | exact rm_s (by omega))⟩) (fun _ _ _ _ _ _ _ hp => hp.elim) (fun r_1077 ad1 ct1 H locs hp X => ?_)
        have hC : cArch S (nI ch) = 2 := by rw [cArch_v (by omega), if_pos hc6, if_neg (of_decide_eq_false h4)]
        obtain ⟨ha_, hq⟩ := hp
        rcases hq with ⟨z, -⟩ | ⟨z, -⟩ | ⟨z, hr_, hb_⟩ | ⟨z, -⟩
        case inl => exact absurd (hC.symm.trans z) (by decide)
        case inr.inl => exact absurd (hC.symm.trans z) (by decide)
        case inr.inr.inr => exact absurd (hC.symm.trans z) (by decide)
        subst hr_
        rw [hb_, ← ha_] at X
        refine lv_iload hx hb dL_law_1080 (lv_at hl 0 rfl) ?_
        refine lv_bipush (v := 6) hx hb dL_law_1082 (by decide) ?_
        refine lv_icmp_ne (tgt := 1092) hx hb dL_law_1084 (by decide) (fun c_1084 => ?_) (fun c_1084 => ?_)
        · refine lv_aload hx hb dL_law_1092 (lv_at hl 8 rfl) ?_
          refine lv_bipush (v := 8) hx hb dL_law_1094 (by decide) ?_
          refine lv_iload hx hb dL_law_1096 (lv_at hl 0 rfl) ?_
          refine lv_iadd hx hb dL_law_1098 ?_
          refine lv_topi (fun x_1098 e_1098 => ?_)
          obtain rfl : x_1098 = nI (8 + ch) := e_1098.trans (nI_add 8 ch)
          refine k_ild (ad := ad) (k := 17) (i := 5) Z X ct_17_5 (vp_in_nI (n := (8 + ch)) (by first | assumption | omega) (by decide)) dL_law_1099 ?_
          refine lv_topi (fun x_1099 e_1099 => ?_)
          obtain rfl : x_1099 = T.1 6 (8 + ch) := e_1099.trans (by first | (simp only [nI_clamp (show 8 + ch < 2 ^ 31 by omega)]; done) | rfl | (simp only [nI_clamp (show 8 + ch < 2 ^ 31 by omega)]; rfl) | (simp only [nI_clamp (show 8 + ch < 2 ^ 31 by omega)]; simp [sI, sN]; done))
          refine lv_topi (fun x_1099 e_1099 => ?_)
          obtain rfl : x_1099 = S.1 4 ch := e_1099.trans (hT.o (by omega))
          refine lv_iconst (v := 1) hx hb dL_law_1100 (by decide) ?_
          refine lv_icmp_ne (tgt := 1109) hx hb dL_law_1101 (by decide) (fun c_1101 => ?_) (fun c_1101 => ?_)
          · exact absurd ((hT.2.2.2.2.2.1 ch hc6).2.2.resolve_left (of_decide_eq_false h4)) c_1101
          · refine lv_ldc (v := (-1000000)) hx hb Z.1.2.2.2.1 (Z.1.2.2.2.2 _ (inU_1 _ (List.mem_of_getElem? (i := 8) rfl))) dL_law_1104 ?_
            refine lv_goto (tgt := 1123) hx hb dL_law_1106 (by decide) ?_
            refine lv_icmp_ne (tgt := 1130) hx hb dL_law_1123 (by decide) (fun c_1123 => ?_) (fun c_1123 => ?_)
            · exact absurd rfl c_1123
            · refine lv_iconst (v := 1) hx hb dL_law_1126 (by decide) ?_
              refine lv_goto (tgt := 1131) hx hb dL_law_1127 (by decide) ?_
              refine lv_istore (lv' := [(13, .int 1), (20, .int (nI ch)), (0, .ref b), (1, .ref (ad 0 0)), (2, .ref (ad 17 0)), (3, .ref (ad 17 1)), (4, .ref (ad 17 2)), (5, .ref (ad 17 3)), (6, .ref (ad 17 4)), (7, .ref (ad 17 5)), (8, .ref (ad 17 6)), (9, .ref (ad 17 7)), (10, .ref (ad 17 8)), (11, .ref (ad 17 9)), (12, .ref (ad 17 10)), (14, .int (nI i)), (15, .int (nI wq)), (16, .int (nI x1)), (17, .int (nI x2)), (18, .int (nI uq)), (19, .int (bI (decide (uq < S.2 0 0))))]) hx hb dL_law_1131 hl (by decide) rfl (fun ls hl => ?_)
              refine lv_goto (tgt := 1231) hx hb dL_law_1133 (by decide) ?_
              refine W.widen (k := 1100 * i + 240) (n := 8000 * i + 10000) (by omega) (by omega) ?_
              exact K _ _ _ _ _ _ (hI.mid (by omega)) X (lv_sub hl [2, 3, 4, 5, 6, 7, 8, 9, 10, 11, 12, 13, 14, 0, 15, 17] rfl)
        · exact absurd ((nI_eq (a := ch) (b := 6) (by omega) (by omega)).mp c_1084) (by omega)
      | true =>
        refine lv_aload_n hx hb dL_law_1069 rfl (lv_at hl 2 rfl) ?_
        refine lv_bipush (v := 11) hx hb dL_law_1070 (by decide) ?_
        refine lv_iload hx hb dL_law_1072 (lv_at hl 0 rfl) ?_
        refine lv_iconst (v := 0) hx hb dL_law_1074 (by decide) ?_
        refine lv_iconst (v := 0) hx hb dL_law_1075 (by decide) ?_
        refine lv_iconst (v := 0) hx hb dL_law_1076 (by decide) ?_
        refine k_xRi X (k_xrunSW (As := [.ref (ad 0 0), .int 11, .int (nI ch), .int 0, .int 0, .int 0]) (rest := []) Z X (c_L_does_11 l E G S T o ad (nI ch) 0 0 0 hE hS hL) (k_cwSW 6 Z.1.2.2.2.2 (inU_6 _ (List.mem_of_getElem? (i := 3) rfl)) (inU_6 _ (List.mem_of_getElem? (i := 4) rfl)) (inU_6 _ (List.mem_of_getElem? (i := 5) rfl)) (inU_6 _ (List.mem_of_getElem? (i := 6) rfl)) rfl rfl (by decide +kernel) ⟨(Nat.le_of_ble_eq_true rfl), (Nat.le_of_ble_eq_true rfl)⟩) rfl hl.1 rfl (Nat.le_of_ble_eq_true rfl) dL_law_1077 ⟨(by first | exact rm_c (by omega) | exact rm_s (by omega)), (by first | exact rm_c (by omega) | exact rm_s (by omega))⟩) (fun _ _ _ _ _ _ _ hp => hp.elim) (fun r_1077 ad1 ct1 H locs hp X => ?_)
        have hC : cArch S (nI ch) = 0 := by rw [cArch_v (by omega), if_pos hc6, if_pos (of_decide_eq_true h4)]
        obtain ⟨ha_, hq⟩ := hp
        rcases hq with ⟨z, hr_, S1, hS1, hb_⟩ | ⟨z, -⟩ | ⟨z, -⟩ | ⟨z, -⟩
        case inr.inl => exact absurd (hC.symm.trans z) (by decide)
        case inr.inr.inl => exact absurd (hC.symm.trans z) (by decide)
        case inr.inr.inr => exact absurd (hC.symm.trans z) (by decide)
        subst hr_
        rw [hb_, ← ha_, show S1 = (arcS S (cl (nI ch)) (S.2 0 1)) from hS1] at X
        rw [show cl (nI ch) = ch from nI_clamp (by omega)] at X
        refine lv_topi (fun y_1077 f_1077 => ?_)
        obtain rfl : y_1077 = nI (arcN S ch (S.2 0 1)) := f_1077.trans (by rw [cl_n (show ch < 2 ^ 31 by omega)])
        refine lv_iload hx hb dL_law_1080 (lv_at hl 0 rfl) ?_
        refine lv_bipush (v := 6) hx hb dL_law_1082 (by decide) ?_
        refine lv_icmp_ne (tgt := 1092) hx hb dL_law_1084 (by decide) (fun c_1084 => ?_) (fun c_1084 => ?_)
        · refine lv_aload hx hb dL_law_1092 (lv_at hl 8 rfl) ?_
          refine lv_bipush (v := 8) hx hb dL_law_1094 (by decide) ?_
          refine lv_iload hx hb dL_law_1096 (lv_at hl 0 rfl) ?_
          refine lv_iadd hx hb dL_law_1098 ?_
          refine lv_topi (fun x_1098 e_1098 => ?_)
          obtain rfl : x_1098 = nI (8 + ch) := e_1098.trans (nI_add 8 ch)
          refine k_ild (ad := ad) (k := 17) (i := 5) Z X ct_17_5 (vp_in_nI (n := (8 + ch)) (by first | assumption | omega) (by decide)) dL_law_1099 ?_
          refine lv_topi (fun x_1099 e_1099 => ?_)
          obtain rfl : x_1099 = T.1 6 (8 + ch) := e_1099.trans (by first | (simp only [nI_clamp (show 8 + ch < 2 ^ 31 by omega)]; done) | rfl | (simp only [nI_clamp (show 8 + ch < 2 ^ 31 by omega)]; rfl) | (simp only [nI_clamp (show 8 + ch < 2 ^ 31 by omega)]; simp [sI, sN]; done))
          refine lv_topi (fun x_1099 e_1099 => ?_)
          obtain rfl : x_1099 = S.1 4 ch := e_1099.trans (hT.o (by omega))
          refine lv_iconst (v := 1) hx hb dL_law_1100 (by decide) ?_
          refine lv_icmp_ne (tgt := 1109) hx hb dL_law_1101 (by decide) (fun c_1101 => ?_) (fun c_1101 => ?_)
          · refine lv_aload_n hx hb dL_law_1109 rfl (lv_at hl 4 rfl) ?_
            refine lv_aload hx hb dL_law_1110 (lv_at hl 6 rfl) ?_
            refine lv_aload hx hb dL_law_1112 (lv_at hl 9 rfl) ?_
            refine lv_aload hx hb dL_law_1114 (lv_at hl 11 rfl) ?_
            refine lv_aload hx hb dL_law_1116 (lv_at hl 13 rfl) ?_
            refine lv_iload hx hb dL_law_1118 (lv_at hl 0 rfl) ?_
            refine k_Ri X (k_runS (As := [.ref (ad 17 1), .ref (ad 17 3), .ref (ad 17 6), .ref (ad 17 8), .ref (ad 17 10), .int (nI ch)]) (rest := [.int (nI (arcN S ch (S.2 0 1)))]) Z X (c_L_archived l E G (arcS S ch (S.2 0 1)) T o ad S hT hN ch hr0 hc6 hhr ehr) (k_cwS 6 Z.1.2.2.2.2 (inU_28 _ (List.mem_of_getElem? (i := 0) rfl)) (inU_28 _ (List.mem_of_getElem? (i := 1) rfl)) (inU_6 _ (List.mem_of_getElem? (i := 5) rfl)) (inU_28 _ (List.mem_of_getElem? (i := 2) rfl)) rfl rfl (by decide +kernel) ⟨Nat.le_of_ble_eq_true rfl, Nat.le_of_ble_eq_true rfl⟩) rfl hl.1 rfl (Nat.le_of_ble_eq_true rfl) dL_law_1120 ⟨(by first | exact rm_c (by omega) | exact rm_s (by omega)), (by first | exact rm_c (by omega) | exact rm_s (by omega))⟩) (fun r_1120 ad1 ct1 H locs hp X => ?_)
            obtain ⟨⟨rfl, ha_⟩, T1, hb_, hT1, h111⟩ := hp
            rw [← ha_, hb_] at X
            refine lv_icmp_ne (tgt := 1130) hx hb dL_law_1123 (by decide) (fun c_1123 => ?_) (fun c_1123 => ?_)
            · exact absurd rfl c_1123
            · refine lv_iconst (v := 1) hx hb dL_law_1126 (by decide) ?_
              refine lv_goto (tgt := 1131) hx hb dL_law_1127 (by decide) ?_
              refine lv_istore (lv' := [(13, .int 1), (20, .int (nI ch)), (0, .ref b), (1, .ref (ad 0 0)), (2, .ref (ad 17 0)), (3, .ref (ad 17 1)), (4, .ref (ad 17 2)), (5, .ref (ad 17 3)), (6, .ref (ad 17 4)), (7, .ref (ad 17 5)), (8, .ref (ad 17 6)), (9, .ref (ad 17 7)), (10, .ref (ad 17 8)), (11, .ref (ad 17 9)), (12, .ref (ad 17 10)), (14, .int (nI i)), (15, .int (nI wq)), (16, .int (nI x1)), (17, .int (nI x2)), (18, .int (nI uq)), (19, .int (bI (decide (uq < S.2 0 0))))]) hx hb dL_law_1131 hl (by decide) rfl (fun ls hl => ?_)
              refine lv_goto (tgt := 1231) hx hb dL_law_1133 (by decide) ?_
              refine W.widen (k := 1100 * i + 240) (n := 8000 * i + 10000) (by omega) (by omega) ?_
              exact K _ _ _ _ _ _ (Mid.arch hI ch hT1 h111) X (lv_sub hl [2, 3, 4, 5, 6, 7, 8, 9, 10, 11, 12, 13, 14, 0, 15, 17] rfl)
          · exact absurd ((of_decide_eq_true h4).symm.trans c_1101) (by decide)
        · exact absurd ((nI_eq (a := ch) (b := 6) (by omega) (by omega)).mp c_1084) (by omega)
    | true =>
      have hc6 : ¬ ch < 6 := by have := of_decide_eq_true h6; omega
      refine lv_aload_n hx hb dL_law_1069 rfl (lv_at hl 2 rfl) ?_
      refine lv_bipush (v := 11) hx hb dL_law_1070 (by decide) ?_
      refine lv_iload hx hb dL_law_1072 (lv_at hl 0 rfl) ?_
      refine lv_iconst (v := 0) hx hb dL_law_1074 (by decide) ?_
      refine lv_iconst (v := 0) hx hb dL_law_1075 (by decide) ?_
      refine lv_iconst (v := 0) hx hb dL_law_1076 (by decide) ?_
      refine k_xRi X (k_xrunSW (As := [.ref (ad 0 0), .int 11, .int (nI ch), .int 0, .int 0, .int 0]) (rest := []) Z X (c_L_does_11 l E G S T o ad (nI ch) 0 0 0 hE hS hL) (k_cwSW 6 Z.1.2.2.2.2 (inU_6 _ (List.mem_of_getElem? (i := 3) rfl)) (inU_6 _ (List.mem_of_getElem? (i := 4) rfl)) (inU_6 _ (List.mem_of_getElem? (i := 5) rfl)) (inU_6 _ (List.mem_of_getElem? (i := 6) rfl)) rfl rfl (by decide +kernel) ⟨(Nat.le_of_ble_eq_true rfl), (Nat.le_of_ble_eq_true rfl)⟩) rfl hl.1 rfl (Nat.le_of_ble_eq_true rfl) dL_law_1077 ⟨(by first | exact rm_c (by omega) | exact rm_s (by omega)), (by first | exact rm_c (by omega) | exact rm_s (by omega))⟩) (fun _ _ _ _ _ _ _ hp => hp.elim) (fun r_1077 ad1 ct1 H locs hp X => ?_)
      have hC : cArch S (nI ch) = 1 := by rw [cArch_v (by omega), if_neg hc6]
      obtain ⟨ha_, hq⟩ := hp
      rcases hq with ⟨z, -⟩ | ⟨z, hr_, hb_⟩ | ⟨z, -⟩ | ⟨z, -⟩
      case inl => exact absurd (hC.symm.trans z) (by decide)
      case inr.inr.inl => exact absurd (hC.symm.trans z) (by decide)
      case inr.inr.inr => exact absurd (hC.symm.trans z) (by decide)
      subst hr_
      rw [hb_, ← ha_] at X
      refine lv_iload hx hb dL_law_1080 (lv_at hl 0 rfl) ?_
      refine lv_bipush (v := 6) hx hb dL_law_1082 (by decide) ?_
      refine lv_icmp_ne (tgt := 1092) hx hb dL_law_1084 (by decide) (fun c_1084 => ?_) (fun c_1084 => ?_)
      · exact absurd (congrArg nI (show ch = 6 by omega)) c_1084
      · refine lv_ldc (v := (-3000000)) hx hb Z.1.2.2.2.1 (Z.1.2.2.2.2 _ (inU_1 _ (List.mem_of_getElem? (i := 5) rfl))) dL_law_1087 ?_
        refine lv_goto (tgt := 1123) hx hb dL_law_1089 (by decide) ?_
        refine lv_icmp_ne (tgt := 1130) hx hb dL_law_1123 (by decide) (fun c_1123 => ?_) (fun c_1123 => ?_)
        · exact absurd rfl c_1123
        · refine lv_iconst (v := 1) hx hb dL_law_1126 (by decide) ?_
          refine lv_goto (tgt := 1131) hx hb dL_law_1127 (by decide) ?_
          refine lv_istore (lv' := [(13, .int 1), (20, .int (nI ch)), (0, .ref b), (1, .ref (ad 0 0)), (2, .ref (ad 17 0)), (3, .ref (ad 17 1)), (4, .ref (ad 17 2)), (5, .ref (ad 17 3)), (6, .ref (ad 17 4)), (7, .ref (ad 17 5)), (8, .ref (ad 17 6)), (9, .ref (ad 17 7)), (10, .ref (ad 17 8)), (11, .ref (ad 17 9)), (12, .ref (ad 17 10)), (14, .int (nI i)), (15, .int (nI wq)), (16, .int (nI x1)), (17, .int (nI x2)), (18, .int (nI uq)), (19, .int (bI (decide (uq < S.2 0 0))))]) hx hb dL_law_1131 hl (by decide) rfl (fun ls hl => ?_)
          refine lv_goto (tgt := 1231) hx hb dL_law_1133 (by decide) ?_
          refine W.widen (k := 1100 * i + 240) (n := 8000 * i + 10000) (by omega) (by omega) ?_
          exact K _ _ _ _ _ _ (hI.mid (by omega)) X (lv_sub hl [2, 3, 4, 5, 6, 7, 8, 9, 10, 11, 12, 13, 14, 0, 15, 17] rfl)
  refine lv_iload hx hb dL_law_1050 (lv_at hl 17 rfl) ?_
  refine lv_bipush (v := 13) hx hb dL_law_1052 (by decide) ?_
  refine lv_irem hx hb dL_law_1054 (by decide) ?_
  refine lv_topi (fun x_1054 e_1054 => ?_)
  obtain rfl : x_1054 = nI (x2 % 13) := e_1054.trans ((pk_rem (a := x2) (d := 13) (by omega) (by omega) (by omega)))
  refine lv_if_ne (tgt := 1063) hx hb dL_law_1055 (by decide) (fun c_1055 => ?_) (fun c_1055 => ?_)
  · have c_1055 : ¬ x2 % 13 = 0 := fun h => c_1055 ((nI_eq (a := x2 % 13) (b := 0) (by omega) (by omega)).mpr h)
    refine lv_iload hx hb dL_law_1063 (lv_at hl 17 rfl) ?_
    refine lv_iconst (v := 2) hx hb dL_law_1065 (by decide) ?_
    refine lv_irem hx hb dL_law_1066 (by decide) ?_
    refine lv_topi (fun x_1066 e_1066 => ?_)
    obtain rfl : x_1066 = nI (x2 % 2) := e_1066.trans ((pk_rem (a := x2) (d := 2) (by omega) (by omega) (by omega)))
    exact W.eq (congrArg (fun z => F0 m 1067 ls (.int z :: [])) ((by rw [ech]; unfold chA; (first | rw [if_pos (show x2 % 13 = 0 by omega)] | rw [if_neg (show ¬ x2 % 13 = 0 by omega)]) <;> first | rfl | exact m1_s _ | exact (m1_s _).symm | decide))) (M_1067 _ _ X)
  · have c_1055 : x2 % 13 = 0 := (nI_eq (a := x2 % 13) (b := 0) (by omega) (by omega)).mp c_1055
    refine lv_bipush (v := 6) hx hb dL_law_1058 (by decide) ?_
    refine lv_goto (tgt := 1067) hx hb dL_law_1060 (by decide) ?_
    exact W.eq (congrArg (fun z => F0 m 1067 ls (.int z :: [])) ((by rw [ech]; unfold chA; (first | rw [if_pos (show x2 % 13 = 0 by omega)] | rw [if_neg (show ¬ x2 % 13 = 0 by omega)]) <;> first | rfl | exact m1_s _ | exact (m1_s _).symm | decide))) (M_1067 _ _ X)
set_option maxHeartbeats 4000000 in
set_option maxRecDepth 100000 in
theorem a_pass {p : Program} {l : Launch} {e : Env} {s : State} {m : MethodId} {below : List Frame} {meth : Method} {c : Code} {E : State} {G : kG} {o : Int64} {Q : State → Prop} {b i : Nat} {S T : kSt} {ad : kAd} {x1 x2 wq uq : Nat} (hE : kE l E G) (Z : kZ p m c code 24 s #[Value.ref b] wsL_law RL E G) (hi : i < 64) (hx1 : x1 < 60000) (hx2 : x2 < 60000) (hwq : wq < 32) (hI : Iv i S T) (huq : uq ≤ S.2 0 0) (K : lwF p l e s m below meth c E G b i x1 o Q) : ∀ (H : Heap) (locs : List Loc) (ls : Array Slot), kX E G s H locs ad (cto G S T o ad) → lv_has ls 24 [(0, .ref b), (1, .ref (ad 0 0)), (2, .ref (ad 17 0)), (3, .ref (ad 17 1)), (4, .ref (ad 17 2)), (5, .ref (ad 17 3)), (6, .ref (ad 17 4)), (7, .ref (ad 17 5)), (8, .ref (ad 17 6)), (9, .ref (ad 17 7)), (10, .ref (ad 17 8)), (11, .ref (ad 17 9)), (12, .ref (ad 17 10)), (13, .int 1), (14, .int (nI i)), (15, .int (nI wq)), (16, .int (nI x1)), (17, .int (nI x2)), (18, .int (nI uq)), (19, .int (bI (decide (uq < S.2 0 0))))] → W p l e room_1 s m #[Value.ref b] below meth c H locs (1100 * i + 200) (8000 * i + 9000) Q (F0 m 1136 ls []) := by
  intro H locs ls X hl
  have hx := Z.1.1
  have hb := Z.1.2.1
  have hT := hI.lt
  obtain ⟨hS, hL, hK9, hLg, hRp, hlog9, hB⟩ := hI.1.ok
  have hN := hS
  have hlog : S.2 0 4 < 512 := by omega
  obtain ⟨hc0, hc1, hc2, hc3⟩ := hT.c
  obtain ⟨hq, ehq⟩ : ∃ y, y = hqP x1 := ⟨_, rfl⟩
  have hhq : 1 ≤ hq ∧ hq ≤ 1000 := by rw [ehq]; exact hqP_in x1
  have M_1163 : ∀ (H : Heap) (locs : List Loc), kX E G s H locs ad (cto G S T o ad) → W p l e room_1 s m #[Value.ref b] below meth c H locs (1100 * i + 200) (8000 * i + 9000) Q (F0 m 1163 ls [.int (nI hq)]) := by
    intro H locs X
    refine lv_istore (lv' := [(20, .int (nI hq)), (0, .ref b), (1, .ref (ad 0 0)), (2, .ref (ad 17 0)), (3, .ref (ad 17 1)), (4, .ref (ad 17 2)), (5, .ref (ad 17 3)), (6, .ref (ad 17 4)), (7, .ref (ad 17 5)), (8, .ref (ad 17 6)), (9, .ref (ad 17 7)), (10, .ref (ad 17 8)), (11, .ref (ad 17 9)), (12, .ref (ad 17 10)), (13, .int 1), (14, .int (nI i)), (15, .int (nI wq)), (16, .int (nI x1)), (17, .int (nI x2)), (18, .int (nI uq)), (19, .int (bI (decide (uq < S.2 0 0))))]) hx hb dL_law_1163 hl (by decide) rfl (fun ls hl => ?_)
    refine lv_iconst (v := 0) hx hb dL_law_1165 (by decide) ?_
    refine lv_istore (lv' := [(21, .int 0), (20, .int (nI hq)), (0, .ref b), (1, .ref (ad 0 0)), (2, .ref (ad 17 0)), (3, .ref (ad 17 1)), (4, .ref (ad 17 2)), (5, .ref (ad 17 3)), (6, .ref (ad 17 4)), (7, .ref (ad 17 5)), (8, .ref (ad 17 6)), (9, .ref (ad 17 7)), (10, .ref (ad 17 8)), (11, .ref (ad 17 9)), (12, .ref (ad 17 10)), (13, .int 1), (14, .int (nI i)), (15, .int (nI wq)), (16, .int (nI x1)), (17, .int (nI x2)), (18, .int (nI uq)), (19, .int (bI (decide (uq < S.2 0 0))))]) hx hb dL_law_1166 hl (by decide) rfl (fun ls hl => ?_)
    have LOOP_1168 : ∀ (d : Nat) (j : Nat) (Tq : kSt), j ≤ hq → LT (itP S (kdS S) j) Tq → Tq.1 11 5 = T.1 11 5 → hq < j + d → ∀ (H : Heap) (locs : List Loc) (ls : Array Slot), kX E G s H locs ad (cto G S Tq o ad) → lv_has ls 24 [(21, .int (nI j)), (20, .int (nI hq)), (0, .ref b), (1, .ref (ad 0 0)), (2, .ref (ad 17 0)), (3, .ref (ad 17 1)), (4, .ref (ad 17 2)), (5, .ref (ad 17 3)), (6, .ref (ad 17 4)), (7, .ref (ad 17 5)), (8, .ref (ad 17 6)), (9, .ref (ad 17 7)), (10, .ref (ad 17 8)), (11, .ref (ad 17 9)), (12, .ref (ad 17 10)), (13, .int 1), (14, .int (nI i)), (15, .int (nI wq)), (16, .int (nI x1)), (17, .int (nI x2)), (18, .int (nI uq)), (19, .int (bI (decide (uq < S.2 0 0))))] → W p l e room_1 s m #[Value.ref b] below meth c H locs (1100 * i + 200) (8000 * i + 9000) Q (F0 m 1168 ls []) := by
      intro d
      induction d with
      | zero => intro j Tq hj1 hTq h5 hj2; intros; exact absurd hj2 (by omega)
      | succ d ih =>
        intro j Tq hj1 hTq h5 hj2 H locs ls X hl
        obtain ⟨Mj, eMj⟩ : ∃ y, y = itP S (kdS S) j := ⟨_, rfl⟩
        have hTj := hTq
        rw [← eMj] at hTj
        refine lv_iload hx hb dL_law_1168 (lv_at hl 0 rfl) ?_
        refine lv_iload hx hb dL_law_1170 (lv_at hl 1 rfl) ?_
        refine lv_icmp_ge (tgt := 1206) hx hb dL_law_1172 (by decide) (fun c_1172 => ?_) (fun c_1172 => ?_)
        · have c_1172 : hq ≤ j := (nI_leI (a := hq) (b := j) (by omega) (by omega)).mp c_1172
          have hjq : j = hq := by omega
          have hTh : LT (itP S (kdS S) hq) Tq := by rw [← hjq]; exact hTq
          refine lv_aload_n hx hb dL_law_1206 rfl (lv_at hl 3 rfl) ?_
          refine lv_bipush (v := 12) hx hb dL_law_1207 (by decide) ?_
          refine lv_iload hx hb dL_law_1209 (lv_at hl 1 rfl) ?_
          refine lv_iconst (v := 0) hx hb dL_law_1211 (by decide) ?_
          refine lv_iconst (v := 0) hx hb dL_law_1212 (by decide) ?_
          refine lv_iconst (v := 0) hx hb dL_law_1213 (by decide) ?_
          refine k_xRi X (k_xrunSW (As := [.ref (ad 0 0), .int 12, .int (nI hq), .int 0, .int 0, .int 0]) (rest := []) Z X (c_L_does_12 l E G S Tq o ad (nI hq) 0 0 0 hE hS hL hK9) (k_cwSW 6 Z.1.2.2.2.2 (inU_6 _ (List.mem_of_getElem? (i := 3) rfl)) (inU_6 _ (List.mem_of_getElem? (i := 4) rfl)) (inU_6 _ (List.mem_of_getElem? (i := 5) rfl)) (inU_6 _ (List.mem_of_getElem? (i := 6) rfl)) rfl rfl (by decide +kernel) ⟨(Nat.le_of_ble_eq_true rfl), (Nat.le_of_ble_eq_true rfl)⟩) rfl hl.1 rfl (Nat.le_of_ble_eq_true rfl) dL_law_1214 ⟨(by first | exact rm_c (by omega) | exact rm_s (by omega)), (by first | exact rm_c (by omega) | exact rm_s (by omega))⟩) (fun _ _ _ _ _ _ _ hp => hp.elim) (fun r_1214 ad1 ct1 H locs hp X => ?_)
          have hC : cPass (nI hq) = 0 := (cPass_v hhq.1 hhq.2).1
          obtain ⟨ha_, hq⟩ := hp
          rcases hq with ⟨z, hr_, S1, hS1, hb_⟩ | ⟨z, -⟩ | ⟨z, -⟩ | ⟨z, -⟩
          case inr.inl => exact absurd (hC.symm.trans z) (by decide)
          case inr.inr.inl => exact absurd (hC.symm.trans z) (by decide)
          case inr.inr.inr => exact absurd (hC.symm.trans z) (by decide)
          subst hr_
          rw [hb_, ← ha_, show S1 = (oPassC S (nI hq)) from hS1] at X
          refine lv_aload hx hb dL_law_1217 (lv_at hl 14 rfl) ?_
          refine lv_iconst (v := 0) hx hb dL_law_1219 (by decide) ?_
          refine k_ild (ad := ad) (k := 17) (i := 10) Z X ct_17_10 (vp_in_nI (n := 0) (by first | assumption | omega) (by decide)) dL_law_1220 ?_
          refine lv_topi (fun x_1220 e_1220 => ?_)
          obtain rfl : x_1220 = Tq.1 11 0 := e_1220.trans (by first | (simp only [nI_clamp (show 0 < 2 ^ 31 by omega)]; done) | rfl | (simp only [nI_clamp (show 0 < 2 ^ 31 by omega)]; rfl) | (simp only [nI_clamp (show 0 < 2 ^ 31 by omega)]; simp [sI, sN]; done))
          refine lv_topi (fun x_1220 e_1220 => ?_)
          obtain rfl : x_1220 = S.1 0 0 + nI hq := e_1220.trans (hTh.g0.trans (itP_00 S (kdS S) hq))
          refine lv_icmp_ne (tgt := 1228) hx hb dL_law_1221 (by decide) (fun c_1221 => ?_) (fun c_1221 => ?_)
          · exact absurd rfl c_1221
          · refine lv_iconst (v := 1) hx hb dL_law_1224 (by decide) ?_
            refine lv_goto (tgt := 1229) hx hb dL_law_1225 (by decide) ?_
            refine lv_istore (lv' := [(13, .int 1), (21, .int (nI j)), (20, .int (nI hq)), (0, .ref b), (1, .ref (ad 0 0)), (2, .ref (ad 17 0)), (3, .ref (ad 17 1)), (4, .ref (ad 17 2)), (5, .ref (ad 17 3)), (6, .ref (ad 17 4)), (7, .ref (ad 17 5)), (8, .ref (ad 17 6)), (9, .ref (ad 17 7)), (10, .ref (ad 17 8)), (11, .ref (ad 17 9)), (12, .ref (ad 17 10)), (14, .int (nI i)), (15, .int (nI wq)), (16, .int (nI x1)), (17, .int (nI x2)), (18, .int (nI uq)), (19, .int (bI (decide (uq < S.2 0 0))))]) hx hb dL_law_1229 hl (by decide) rfl (fun ls hl => ?_)
            refine W.widen (k := 1100 * i + 240) (n := 8000 * i + 10000) (by omega) (by omega) ?_
            exact K _ _ _ _ _ _ (Mid.pass hI (by omega) hhq.1 hhq.2 hTh h5) X (lv_sub hl [3, 4, 5, 6, 7, 8, 9, 10, 11, 12, 13, 14, 15, 0, 16, 18] rfl)
        · have c_1172 : ¬ hq ≤ j := fun h => c_1172 ((nI_leI (a := hq) (b := j) (by omega) (by omega)).mpr h)
          refine lv_aload hx hb dL_law_1175 (lv_at hl 14 rfl) ?_
          refine lv_iconst (v := 0) hx hb dL_law_1177 (by decide) ?_
          refine lv_dup2_11 hx hb dL_law_1178 rfl rfl ?_
          refine k_ild (ad := ad) (k := 17) (i := 10) Z X ct_17_10 (vp_in_nI (n := 0) (by first | assumption | omega) (by decide)) dL_law_1179 ?_
          refine lv_topi (fun x_1179 e_1179 => ?_)
          obtain rfl : x_1179 = Tq.1 11 0 := e_1179.trans (by first | (simp only [nI_clamp (show 0 < 2 ^ 31 by omega)]; done) | rfl | (simp only [nI_clamp (show 0 < 2 ^ 31 by omega)]; rfl) | (simp only [nI_clamp (show 0 < 2 ^ 31 by omega)]; simp [sI, sN]; done))
          refine lv_topi (fun x_1179 e_1179 => ?_)
          obtain rfl : x_1179 = Mj.1 0 0 := e_1179.trans (hTj.g0)
          refine lv_iconst (v := 1) hx hb dL_law_1180 (by decide) ?_
          refine lv_iadd hx hb dL_law_1181 ?_
          refine k_ist (ad := ad) (k := 17) (i := 10) Z X ct_17_10 (vp_in_nI (n := 0) (by first | assumption | omega) (by decide)) dL_law_1182 (fun H locs X => ?_)
          have X : kX E G s H locs ad (cto G S (sI Tq 11 0 ((Mj.1 0 0) + 1)) o ad) := X.eq (st_17 (a := 10) (by decide) 0 _ (by omega))
          refine lv_aload_n hx hb dL_law_1183 rfl (lv_at hl 4 rfl) ?_
          refine lv_aload_n hx hb dL_law_1184 rfl (lv_at hl 5 rfl) ?_
          refine lv_aload hx hb dL_law_1185 (lv_at hl 6 rfl) ?_
          refine lv_aload hx hb dL_law_1187 (lv_at hl 8 rfl) ?_
          refine lv_aload hx hb dL_law_1189 (lv_at hl 9 rfl) ?_
          refine lv_aload hx hb dL_law_1191 (lv_at hl 10 rfl) ?_
          refine lv_aload hx hb dL_law_1193 (lv_at hl 11 rfl) ?_
          refine lv_aload hx hb dL_law_1195 (lv_at hl 14 rfl) ?_
          refine k_Rv X (k_runS (As := [.ref (ad 17 0), .ref (ad 17 1), .ref (ad 17 2), .ref (ad 17 4), .ref (ad 17 5), .ref (ad 17 6), .ref (ad 17 7), .ref (ad 17 10)]) (rest := []) Z X (c_L_settles l E G S (sI Tq 11 0 ((Mj.1 0 0) + 1)) o ad (sI Mj 0 0 (Mj.1 0 0 + 1)) (hTj.hour _) (by rw [eMj]; exact itP_okN hN _ j)) (k_cwS 8 Z.1.2.2.2.2 (inU_28 _ (List.mem_of_getElem? (i := 5) rfl)) (inU_28 _ (List.mem_of_getElem? (i := 6) rfl)) (inU_6 _ (List.mem_of_getElem? (i := 5) rfl)) (inU_28 _ (List.mem_of_getElem? (i := 7) rfl)) rfl rfl (by decide +kernel) ⟨Nat.le_of_ble_eq_true rfl, Nat.le_of_ble_eq_true rfl⟩) rfl hl.1 rfl (Nat.le_of_ble_eq_true rfl) dL_law_1197 ⟨(by first | exact rm_c (by omega) | exact rm_s (by omega)), (by first | exact rm_c (by omega) | exact rm_s (by omega))⟩) (fun ad1 ct1 H locs hp X => ?_)
          obtain ⟨ha_, T1, hb_, hT1, h11⟩ := hp
          rw [← ha_, hb_] at X
          rw [eMj, itP_step] at hT1
          refine lv_iinc (v := (nI (j + 1))) (lv' := [(21, .int (nI (j + 1))), (20, .int (nI hq)), (0, .ref b), (1, .ref (ad 0 0)), (2, .ref (ad 17 0)), (3, .ref (ad 17 1)), (4, .ref (ad 17 2)), (5, .ref (ad 17 3)), (6, .ref (ad 17 4)), (7, .ref (ad 17 5)), (8, .ref (ad 17 6)), (9, .ref (ad 17 7)), (10, .ref (ad 17 8)), (11, .ref (ad 17 9)), (12, .ref (ad 17 10)), (13, .int 1), (14, .int (nI i)), (15, .int (nI wq)), (16, .int (nI x1)), (17, .int (nI x2)), (18, .int (nI uq)), (19, .int (bI (decide (uq < S.2 0 0))))]) hx hb dL_law_1200 hl (k := 0) rfl (nI_1 _) (by decide) rfl (fun ls hl => ?_)
          refine lv_goto (tgt := 1168) hx hb dL_law_1203 (by decide) ?_
          exact ih (j + 1) T1 (by omega) hT1 (by rw [h11, sI_n (by decide)]; exact h5) (by omega) _ _ _ X (lv_sub hl [0, 1, 2, 3, 4, 5, 6, 7, 8, 9, 10, 11, 12, 13, 14, 15, 16, 17, 18, 19, 20, 21] rfl)
    exact LOOP_1168 (hq + 1) 0 T (Nat.zero_le _) hT rfl (by omega) _ _ _ X (lv_sub hl [0, 1, 2, 3, 4, 5, 6, 7, 8, 9, 10, 11, 12, 13, 14, 15, 16, 17, 18, 19, 20, 21] rfl)
  refine lv_iload hx hb dL_law_1136 (lv_at hl 16 rfl) ?_
  refine lv_iconst (v := 4) hx hb dL_law_1138 (by decide) ?_
  refine lv_irem hx hb dL_law_1139 (by decide) ?_
  refine lv_topi (fun x_1139 e_1139 => ?_)
  obtain rfl : x_1139 = nI (x1 % 4) := e_1139.trans ((pk_rem (a := x1) (d := 4) (by omega) (by omega) (by omega)))
  refine lv_if_ne (tgt := 1156) hx hb dL_law_1140 (by decide) (fun c_1140 => ?_) (fun c_1140 => ?_)
  · have c_1140 : ¬ x1 % 4 = 0 := fun h => c_1140 ((nI_eq (a := x1 % 4) (b := 0) (by omega) (by omega)).mpr h)
    refine lv_iconst (v := 1) hx hb dL_law_1156 (by decide) ?_
    refine lv_iload hx hb dL_law_1157 (lv_at hl 16 rfl) ?_
    refine lv_bipush (v := 12) hx hb dL_law_1159 (by decide) ?_
    refine lv_irem hx hb dL_law_1161 (by decide) ?_
    refine lv_topi (fun x_1161 e_1161 => ?_)
    obtain rfl : x_1161 = nI (x1 % 12) := e_1161.trans ((pk_rem (a := x1) (d := 12) (by omega) (by omega) (by omega)))
    refine lv_iadd hx hb dL_law_1162 ?_
    refine lv_topi (fun x_1162 e_1162 => ?_)
    obtain rfl : x_1162 = nI (1 + (x1 % 12)) := e_1162.trans (nI_add 1 (x1 % 12))
    exact W.eq (congrArg (fun z => F0 m 1163 ls (.int z :: [])) ((by rw [ehq]; unfold hqP; (first | rw [if_pos (show x1 % 4 = 0 by omega)] | rw [if_neg (show ¬ x1 % 4 = 0 by omega)]) <;> first | rfl | exact m1_s _ | exact (m1_s _).symm | decide))) (M_1163 _ _ X)
  · have c_1140 : x1 % 4 = 0 := (nI_eq (a := x1 % 4) (b := 0) (by omega) (by omega)).mp c_1140
    refine lv_sipush (v := 700) hx hb dL_law_1143 (by decide) ?_
    refine lv_iload hx hb dL_law_1146 (lv_at hl 16 rfl) ?_
    refine lv_sipush (v := 301) hx hb dL_law_1148 (by decide) ?_
    refine lv_irem hx hb dL_law_1151 (by decide) ?_
    refine lv_topi (fun x_1151 e_1151 => ?_)
    obtain rfl : x_1151 = nI (x1 % 301) := e_1151.trans ((pk_rem (a := x1) (d := 301) (by omega) (by omega) (by omega)))
    refine lv_iadd hx hb dL_law_1152 ?_
    refine lv_topi (fun x_1152 e_1152 => ?_)
    obtain rfl : x_1152 = nI (700 + (x1 % 301)) := e_1152.trans (nI_add 700 (x1 % 301))
    refine lv_goto (tgt := 1163) hx hb dL_law_1153 (by decide) ?_
    exact W.eq (congrArg (fun z => F0 m 1163 ls (.int z :: [])) ((by rw [ehq]; unfold hqP; (first | rw [if_pos (show x1 % 4 = 0 by omega)] | rw [if_neg (show ¬ x1 % 4 = 0 by omega)]) <;> first | rfl | exact m1_s _ | exact (m1_s _).symm | decide))) (M_1163 _ _ X)
