/-! THE LAW'S ARMS, further -/
section ARM
variable {p : Program} {l : Launch} {e : Env} {s : State} {m : MethodId} {below : List Frame} {meth : Method} {c : Code} {b L i n cells slots : Nat} {xs : Nat → Int32} {G : kG} {S T : kSt} {o : Int64} {ad : kAd} {H : Heap} {locs : List Loc} {ls : Array Slot} {Q : State → Prop}
set_option maxHeartbeats 1000000 in
set_option maxRecDepth 100000 in
theorem a_edit (hE : kE l s G) (Z : kZ p m c code 7 s #[Value.ref b] wsL_law RL s G) (hX : va_X b L xs s s.heap) (hbl : b < s.heap.size) (hTie : Tie n S T) (hn : n < 512) (X : kX s G s H locs ad (cto G S T o ad)) (hl : lv_has ls 7 (lwLv b i ad)) (hi : i + 5 ≤ L) (hL9 : L ≤ 2560) (r1 : cells + 20 ≤ room_1.cells) (r2 : slots + 400 ≤ room_1.slots) (K : lwK p l e s m below meth c G b i (n + 1) (cells + 20) (slots + 400) Q) : W p l e room_1 s m #[Value.ref b] below meth c H locs cells slots Q (F0 m 472 ls []) := by
  have hx := Z.1.1
  have hb := Z.1.2.1
  have hl : lv_has ls 7 [(4, .int (nI i)), (0, .ref b), (1, .ref (ad 0 0)), (2, .ref (ad 16 0)), (3, .ref (ad 18 0))] := hl
  obtain ⟨⟨hEq, hKd, hS, hLk, hM, hG9, hc9, hV, hB, hM22⟩, hSe⟩ := id hTie
  refine lv_aload_n hx hb dL_law_472 rfl (lv_at hl 2 rfl) ?_
  refine lv_aload_n hx hb dL_law_473 rfl (lv_at hl 1 rfl) ?_
  refine lv_iload hx hb dL_law_474 (lv_at hl 0 rfl) ?_
  refine lv_iconst (v := 1) hx hb dL_law_476 (by decide) ?_
  refine lv_iadd hx hb dL_law_477 ?_
  refine lv_topi (fun x_477 e_477 => ?_)
  obtain rfl : x_477 = nI (i + 1) := e_477.trans (nI_1 _)
  refine va_sld hx hb hX hbl (Nat.not_le.mpr hbl) X.2 (vp_in_nI (show i + 1 < L by omega) (by omega)) dL_law_478 ?_
  refine lv_topi (fun x_478 e_478 => ?_)
  obtain rfl : x_478 = xs (i + 1) := e_478.trans (by rw [nI_clamp (by omega)])
  refine lv_aload_n hx hb dL_law_479 rfl (lv_at hl 1 rfl) ?_
  refine lv_iload hx hb dL_law_480 (lv_at hl 0 rfl) ?_
  refine lv_iconst (v := 2) hx hb dL_law_482 (by decide) ?_
  refine lv_iadd hx hb dL_law_483 ?_
  refine lv_topi (fun x_483 e_483 => ?_)
  obtain rfl : x_483 = nI (i + 2) := e_483.trans (nI_add _ 2)
  refine va_sld hx hb hX hbl (Nat.not_le.mpr hbl) X.2 (vp_in_nI (show i + 2 < L by omega) (by omega)) dL_law_484 ?_
  refine lv_topi (fun x_484 e_484 => ?_)
  obtain rfl : x_484 = xs (i + 2) := e_484.trans (by rw [nI_clamp (by omega)])
  refine lv_aload_n hx hb dL_law_485 rfl (lv_at hl 4 rfl) ?_
  refine k_xRi X (k_xrunSW (As := [.ref (ad 0 0), .int (xs (i + 1)), .int (xs (i + 2)), .ref (ad 18 0)]) (rest := []) Z X (c_L_edit l s G S T o ad (xs (i + 1)) (xs (i + 2)) hE hS hLk (fun a u ha hu => (hM a u ha hu).1) (by omega)) (k_cwSW 4 Z.1.2.2.2.2 (inU_16 _ (List.mem_of_getElem? (i := 17) rfl)) (inU_16 _ (List.mem_of_getElem? (i := 18) rfl)) (inU_7 _ (List.mem_of_getElem? (i := 7) rfl)) (inU_16 _ (List.mem_of_getElem? (i := 19) rfl)) rfl rfl (by decide +kernel) ⟨(Nat.le_of_ble_eq_true rfl), (Nat.le_of_ble_eq_true rfl)⟩) rfl hl.1 rfl (Nat.le_of_ble_eq_true rfl) dL_law_486 ⟨r1, r2⟩) (fun _ _ _ _ _ _ _ hp => hp.elim) (fun r_486 ad1 ct1 H locs hp X => ?_)
  obtain ⟨rfl, hAK, hq⟩ := hp
  rw [← hAK.1, ← hAK.2.1, ← hAK.2.2] at hl
  rcases hq with ⟨hC, S1, hR1, rfl⟩ | ⟨hC, rfl⟩
  · have hCe : cEdit S (xs (i + 1)) (xs (i + 2)) = cEdit T (xs (i + 1)) (xs (i + 2)) := cEdit_e hEq (xs (i + 1)) (xs (i + 2))
    have hR1 : S1 = oEditC S (xs (i + 2)) := hR1
    rw [hR1] at X
    have hCT : cEdit T (xs (i + 1)) (xs (i + 2)) = 0 := hCe.symm.trans hC
    obtain ⟨hT1, h24, hval⟩ := t_edit hTie hn (xs (i + 1)) (xs (i + 2)) hC
    refine lv_istore (lv' := [(5, .int (cEdit S (xs (i + 1)) (xs (i + 2)))), (4, .int (nI i)), (0, .ref b), (1, .ref (ad1 0 0)), (2, .ref (ad1 16 0)), (3, .ref (ad1 18 0))]) hx hb dL_law_489 hl (by decide) rfl (fun ls hl => ?_)
    refine lv_aload_n hx hb dL_law_491 rfl (lv_at hl 4 rfl) ?_
    refine lv_aload_n hx hb dL_law_492 rfl (lv_at hl 2 rfl) ?_
    refine lv_iload hx hb dL_law_493 (lv_at hl 1 rfl) ?_
    refine lv_iconst (v := 1) hx hb dL_law_495 (by decide) ?_
    refine lv_iadd hx hb dL_law_496 ?_
    refine lv_topi (fun x_496 e_496 => ?_)
    obtain rfl : x_496 = nI (i + 1) := e_496.trans (nI_1 _)
    refine va_sld hx hb hX hbl (Nat.not_le.mpr hbl) X.2 (vp_in_nI (show i + 1 < L by omega) (by omega)) dL_law_497 ?_
    refine lv_topi (fun x_497 e_497 => ?_)
    obtain rfl : x_497 = xs (i + 1) := e_497.trans (by rw [nI_clamp (by omega)])
    refine lv_aload_n hx hb dL_law_498 rfl (lv_at hl 2 rfl) ?_
    refine lv_iload hx hb dL_law_499 (lv_at hl 1 rfl) ?_
    refine lv_iconst (v := 2) hx hb dL_law_501 (by decide) ?_
    refine lv_iadd hx hb dL_law_502 ?_
    refine lv_topi (fun x_502 e_502 => ?_)
    obtain rfl : x_502 = nI (i + 2) := e_502.trans (nI_add _ 2)
    refine va_sld hx hb hX hbl (Nat.not_le.mpr hbl) X.2 (vp_in_nI (show i + 2 < L by omega) (by omega)) dL_law_503 ?_
    refine lv_topi (fun x_503 e_503 => ?_)
    obtain rfl : x_503 = xs (i + 2) := e_503.trans (by rw [nI_clamp (by omega)])
    refine k_Ri X (k_runV (As := [.int (xs (i + 1)), .int (xs (i + 2))]) (rest := []) Z X (c_X8_edit l s G (oEditC S (xs (i + 2))) T ((S.1 7 (cl (xs (i + 2))) + 1).toInt64) ad1 (xs (i + 1)) (xs (i + 2)) (okN_e hEq hS) ) (k_cwV 2 Z.1.2.2.2.2 (inU_17 _ (List.mem_of_getElem? (i := 21) rfl)) (inU_17 _ (List.mem_of_getElem? (i := 22) rfl)) (inU_17 _ (List.mem_of_getElem? (i := 23) rfl)) (inU_1 _ (List.mem_of_getElem? (i := 5) rfl)) (inU_18 _ (List.mem_of_getElem? (i := 0) rfl)) rfl rfl (by decide +kernel) ⟨Nat.le_of_ble_eq_true rfl, Nat.le_of_ble_eq_true rfl⟩) (k_recv Z X ct_16 rfl) rfl hl.1 rfl (Nat.le_of_ble_eq_true rfl) dL_law_504 ⟨r1, r2⟩) (fun r_504 ad2 ct2 H locs hp X => ?_)
    obtain ⟨hv, ha_, hb_⟩ := hp
    rw [if_pos hCT] at hb_
    rw [← ha_, hb_] at X
    have hv2 : r_504 = S.1 7 (cl (xs (i + 2))) + 1 := (hv hCT).trans hval.symm
    subst hv2
    refine lv_istore (lv' := [(6, .int (S.1 7 (cl (xs (i + 2))) + 1)), (5, .int (cEdit S (xs (i + 1)) (xs (i + 2)))), (4, .int (nI i)), (0, .ref b), (1, .ref (ad1 0 0)), (2, .ref (ad1 16 0)), (3, .ref (ad1 18 0))]) hx hb dL_law_507 hl (by decide) rfl (fun ls hl => ?_)
    refine lv_aload_n hx hb dL_law_509 rfl (lv_at hl 5 rfl) ?_
    refine k_Ri X (k_runV (As := []) (rest := []) Z X (c_X8_thrown l s G (oEditC S (xs (i + 2))) (oEditM (sI T 24 0 0) (xs (i + 2))) ((S.1 7 (cl (xs (i + 2))) + 1).toInt64) ad1) (k_cwV 0 Z.1.2.2.2.2 (inU_9 _ (List.mem_of_getElem? (i := 7) rfl)) (inU_9 _ (List.mem_of_getElem? (i := 8) rfl)) (inU_9 _ (List.mem_of_getElem? (i := 9) rfl)) (inU_1 _ (List.mem_of_getElem? (i := 5) rfl)) (inU_9 _ (List.mem_of_getElem? (i := 10) rfl)) rfl rfl (by decide +kernel) ⟨Nat.le_of_ble_eq_true rfl, Nat.le_of_ble_eq_true rfl⟩) (k_recv Z X ct_16 rfl) rfl hl.1 rfl (Nat.le_of_ble_eq_true rfl) dL_law_510 ⟨r1, r2⟩) (fun r_510 ad2 ct2 H locs hp X => ?_)
    obtain ⟨rfl, ha_, hb_⟩ := hp
    rw [← ha_, hb_] at X
    refine lv_iload hx hb dL_law_513 (lv_at hl 1 rfl) ?_
    refine lv_icmp_eq (tgt := 520) hx hb dL_law_515 (by decide) (fun c_515 => ?_) (fun c_515 => ?_)
    · refine lv_iload hx hb dL_law_520 (lv_at hl 1 rfl) ?_
      refine lv_if_ne (tgt := 537) hx hb dL_law_522 (by decide) (fun c_522 => ?_) (fun c_522 => ?_)
      · exact absurd hC c_522
      · refine lv_aload_n hx hb dL_law_525 rfl (lv_at hl 6 rfl) ?_
        refine lv_iconst (v := 0) hx hb dL_law_526 (by decide) ?_
        refine k_lld (ad := ad1) (k := 18) (i := 0) Z X ct_18 (by unfold vp_in; decide) dL_law_527 ?_
        refine lv_iload hx hb dL_law_528 (lv_at hl 0 rfl) ?_
        refine lv_i2l (v := (S.1 7 (cl (xs (i + 2))) + 1).toInt64) hx hb dL_law_530 rfl ?_
        refine W.lcmp hx hb dL_law_531 ?_
        refine lv_topi (fun x_531 e_531 => ?_)
        obtain rfl : x_531 = 0 := e_531.trans (lg_self _)
        refine lv_if_eq (tgt := 537) hx hb dL_law_532 (by decide) (fun c_532 => ?_) (fun c_532 => ?_)
        · refine lv_goto (tgt := 1522) hx hb dL_law_537 (by decide) ?_
          exact K _ _ _ _ _ _ _ hT1 X (lv_sub hl [2, 3, 4, 5, 6] rfl)
        · exact absurd c_532 (by decide)
    · exact absurd (h24.trans hC.symm) c_515
  · have hCe : cEdit S (xs (i + 1)) (xs (i + 2)) = cEdit T (xs (i + 1)) (xs (i + 2)) := cEdit_e hEq (xs (i + 1)) (xs (i + 2))
    have hCT : ¬ cEdit T (xs (i + 1)) (xs (i + 2)) = 0 := fun z => hC (hCe.trans z)
    refine lv_istore (lv' := [(5, .int (cEdit S (xs (i + 1)) (xs (i + 2)))), (4, .int (nI i)), (0, .ref b), (1, .ref (ad1 0 0)), (2, .ref (ad1 16 0)), (3, .ref (ad1 18 0))]) hx hb dL_law_489 hl (by decide) rfl (fun ls hl => ?_)
    refine lv_aload_n hx hb dL_law_491 rfl (lv_at hl 4 rfl) ?_
    refine lv_aload_n hx hb dL_law_492 rfl (lv_at hl 2 rfl) ?_
    refine lv_iload hx hb dL_law_493 (lv_at hl 1 rfl) ?_
    refine lv_iconst (v := 1) hx hb dL_law_495 (by decide) ?_
    refine lv_iadd hx hb dL_law_496 ?_
    refine lv_topi (fun x_496 e_496 => ?_)
    obtain rfl : x_496 = nI (i + 1) := e_496.trans (nI_1 _)
    refine va_sld hx hb hX hbl (Nat.not_le.mpr hbl) X.2 (vp_in_nI (show i + 1 < L by omega) (by omega)) dL_law_497 ?_
    refine lv_topi (fun x_497 e_497 => ?_)
    obtain rfl : x_497 = xs (i + 1) := e_497.trans (by rw [nI_clamp (by omega)])
    refine lv_aload_n hx hb dL_law_498 rfl (lv_at hl 2 rfl) ?_
    refine lv_iload hx hb dL_law_499 (lv_at hl 1 rfl) ?_
    refine lv_iconst (v := 2) hx hb dL_law_501 (by decide) ?_
    refine lv_iadd hx hb dL_law_502 ?_
    refine lv_topi (fun x_502 e_502 => ?_)
    obtain rfl : x_502 = nI (i + 2) := e_502.trans (nI_add _ 2)
    refine va_sld hx hb hX hbl (Nat.not_le.mpr hbl) X.2 (vp_in_nI (show i + 2 < L by omega) (by omega)) dL_law_503 ?_
    refine lv_topi (fun x_503 e_503 => ?_)
    obtain rfl : x_503 = xs (i + 2) := e_503.trans (by rw [nI_clamp (by omega)])
    refine k_Ri X (k_runV (As := [.int (xs (i + 1)), .int (xs (i + 2))]) (rest := []) Z X (c_X8_edit l s G S T o ad1 (xs (i + 1)) (xs (i + 2)) (okN_e hEq hS) ) (k_cwV 2 Z.1.2.2.2.2 (inU_17 _ (List.mem_of_getElem? (i := 21) rfl)) (inU_17 _ (List.mem_of_getElem? (i := 22) rfl)) (inU_17 _ (List.mem_of_getElem? (i := 23) rfl)) (inU_1 _ (List.mem_of_getElem? (i := 5) rfl)) (inU_18 _ (List.mem_of_getElem? (i := 0) rfl)) rfl rfl (by decide +kernel) ⟨Nat.le_of_ble_eq_true rfl, Nat.le_of_ble_eq_true rfl⟩) (k_recv Z X ct_16 rfl) rfl hl.1 rfl (Nat.le_of_ble_eq_true rfl) dL_law_504 ⟨r1, r2⟩) (fun r_504 ad2 ct2 H locs hp X => ?_)
    obtain ⟨hv, ha_, hb_⟩ := hp
    rw [if_neg hCT] at hb_
    rw [← ha_, hb_] at X
    refine lv_istore (lv' := [(6, .int r_504), (5, .int (cEdit S (xs (i + 1)) (xs (i + 2)))), (4, .int (nI i)), (0, .ref b), (1, .ref (ad1 0 0)), (2, .ref (ad1 16 0)), (3, .ref (ad1 18 0))]) hx hb dL_law_507 hl (by decide) rfl (fun ls hl => ?_)
    refine lv_aload_n hx hb dL_law_509 rfl (lv_at hl 5 rfl) ?_
    refine k_Ri X (k_runV (As := []) (rest := []) Z X (c_X8_thrown l s G S (sI T 24 0 (cEdit T (xs (i + 1)) (xs (i + 2)))) o ad1) (k_cwV 0 Z.1.2.2.2.2 (inU_9 _ (List.mem_of_getElem? (i := 7) rfl)) (inU_9 _ (List.mem_of_getElem? (i := 8) rfl)) (inU_9 _ (List.mem_of_getElem? (i := 9) rfl)) (inU_1 _ (List.mem_of_getElem? (i := 5) rfl)) (inU_9 _ (List.mem_of_getElem? (i := 10) rfl)) rfl rfl (by decide +kernel) ⟨Nat.le_of_ble_eq_true rfl, Nat.le_of_ble_eq_true rfl⟩) (k_recv Z X ct_16 rfl) rfl hl.1 rfl (Nat.le_of_ble_eq_true rfl) dL_law_510 ⟨r1, r2⟩) (fun r_510 ad2 ct2 H locs hp X => ?_)
    obtain ⟨rfl, ha_, hb_⟩ := hp
    rw [← ha_, hb_] at X
    refine lv_iload hx hb dL_law_513 (lv_at hl 1 rfl) ?_
    refine lv_icmp_eq (tgt := 520) hx hb dL_law_515 (by decide) (fun c_515 => ?_) (fun c_515 => ?_)
    · refine lv_iload hx hb dL_law_520 (lv_at hl 1 rfl) ?_
      refine lv_if_ne (tgt := 537) hx hb dL_law_522 (by decide) (fun c_522 => ?_) (fun c_522 => ?_)
      · refine lv_goto (tgt := 1522) hx hb dL_law_537 (by decide) ?_
        exact K _ _ _ _ _ _ _ ((hTie.t24 _).up (Nat.le_succ n)) X (lv_sub hl [2, 3, 4, 5, 6] rfl)
      · exact absurd c_522 hC
    · exact absurd (sI_s.trans hCe.symm) c_515
set_option maxHeartbeats 1000000 in
set_option maxRecDepth 100000 in
theorem a_mark (hE : kE l s G) (Z : kZ p m c code 7 s #[Value.ref b] wsL_law RL s G) (hX : va_X b L xs s s.heap) (hbl : b < s.heap.size) (hTie : Tie n S T) (hn : n < 512) (X : kX s G s H locs ad (cto G S T o ad)) (hl : lv_has ls 7 (lwLv b i ad)) (hi : i + 5 ≤ L) (hL9 : L ≤ 2560) (r1 : cells + 20 ≤ room_1.cells) (r2 : slots + 400 ≤ room_1.slots) (K : lwK p l e s m below meth c G b i (n + 1) (cells + 20) (slots + 400) Q) : W p l e room_1 s m #[Value.ref b] below meth c H locs cells slots Q (F0 m 540 ls []) := by
  have hx := Z.1.1
  have hb := Z.1.2.1
  have hl : lv_has ls 7 [(4, .int (nI i)), (0, .ref b), (1, .ref (ad 0 0)), (2, .ref (ad 16 0)), (3, .ref (ad 18 0))] := hl
  obtain ⟨⟨hEq, hKd, hS, hLk, hM, hG9, hc9, hV, hB, hM22⟩, hSe⟩ := id hTie
  refine lv_aload_n hx hb dL_law_540 rfl (lv_at hl 2 rfl) ?_
  refine lv_aload_n hx hb dL_law_541 rfl (lv_at hl 1 rfl) ?_
  refine lv_iload hx hb dL_law_542 (lv_at hl 0 rfl) ?_
  refine lv_iconst (v := 1) hx hb dL_law_544 (by decide) ?_
  refine lv_iadd hx hb dL_law_545 ?_
  refine lv_topi (fun x_545 e_545 => ?_)
  obtain rfl : x_545 = nI (i + 1) := e_545.trans (nI_1 _)
  refine va_sld hx hb hX hbl (Nat.not_le.mpr hbl) X.2 (vp_in_nI (show i + 1 < L by omega) (by omega)) dL_law_546 ?_
  refine lv_topi (fun x_546 e_546 => ?_)
  obtain rfl : x_546 = xs (i + 1) := e_546.trans (by rw [nI_clamp (by omega)])
  refine lv_aload_n hx hb dL_law_547 rfl (lv_at hl 1 rfl) ?_
  refine lv_iload hx hb dL_law_548 (lv_at hl 0 rfl) ?_
  refine lv_iconst (v := 2) hx hb dL_law_550 (by decide) ?_
  refine lv_iadd hx hb dL_law_551 ?_
  refine lv_topi (fun x_551 e_551 => ?_)
  obtain rfl : x_551 = nI (i + 2) := e_551.trans (nI_add _ 2)
  refine va_sld hx hb hX hbl (Nat.not_le.mpr hbl) X.2 (vp_in_nI (show i + 2 < L by omega) (by omega)) dL_law_552 ?_
  refine lv_topi (fun x_552 e_552 => ?_)
  obtain rfl : x_552 = xs (i + 2) := e_552.trans (by rw [nI_clamp (by omega)])
  refine lv_aload_n hx hb dL_law_553 rfl (lv_at hl 1 rfl) ?_
  refine lv_iload hx hb dL_law_554 (lv_at hl 0 rfl) ?_
  refine lv_iconst (v := 3) hx hb dL_law_556 (by decide) ?_
  refine lv_iadd hx hb dL_law_557 ?_
  refine lv_topi (fun x_557 e_557 => ?_)
  obtain rfl : x_557 = nI (i + 3) := e_557.trans (nI_add _ 3)
  refine va_sld hx hb hX hbl (Nat.not_le.mpr hbl) X.2 (vp_in_nI (show i + 3 < L by omega) (by omega)) dL_law_558 ?_
  refine lv_topi (fun x_558 e_558 => ?_)
  obtain rfl : x_558 = xs (i + 3) := e_558.trans (by rw [nI_clamp (by omega)])
  refine lv_aload_n hx hb dL_law_559 rfl (lv_at hl 4 rfl) ?_
  refine k_xRi X (k_xrunSW (As := [.ref (ad 0 0), .int (xs (i + 1)), .int (xs (i + 2)), .int (xs (i + 3)), .ref (ad 18 0)]) (rest := []) Z X (c_L_mark l s G S T o ad (xs (i + 1)) (xs (i + 2)) (xs (i + 3)) hE hS hLk (fun a u ha hu => (hM a u ha hu).1) (by omega)) (k_cwSW 5 Z.1.2.2.2.2 (inU_18 _ (List.mem_of_getElem? (i := 2) rfl)) (inU_18 _ (List.mem_of_getElem? (i := 3) rfl)) (inU_7 _ (List.mem_of_getElem? (i := 7) rfl)) (inU_18 _ (List.mem_of_getElem? (i := 4) rfl)) rfl rfl (by decide +kernel) ⟨(Nat.le_of_ble_eq_true rfl), (Nat.le_of_ble_eq_true rfl)⟩) rfl hl.1 rfl (Nat.le_of_ble_eq_true rfl) dL_law_560 ⟨r1, r2⟩) (fun _ _ _ _ _ _ _ hp => hp.elim) (fun r_560 ad1 ct1 H locs hp X => ?_)
  obtain ⟨rfl, hAK, hq⟩ := hp
  rw [← hAK.1, ← hAK.2.1, ← hAK.2.2] at hl
  rcases hq with ⟨hC, S1, hR1, rfl⟩ | ⟨hC, rfl⟩
  · have hCe : cMark S (kdS S) (xs (i + 1)) (xs (i + 2)) (xs (i + 3)) = cMark T (kdT T) (xs (i + 1)) (xs (i + 2)) (xs (i + 3)) := cMark_e hEq hS hKd (xs (i + 1)) (xs (i + 2)) (xs (i + 3))
    have hR1 : S1 = oMarkC S (xs (i + 1)) (xs (i + 2)) (xs (i + 3)) := hR1
    rw [hR1] at X
    have hCT : cMark T (kdT T) (xs (i + 1)) (xs (i + 2)) (xs (i + 3)) = 0 := hCe.symm.trans hC
    obtain ⟨hT1, h24, hval⟩ := t_mark hTie hn (xs (i + 1)) (xs (i + 2)) (xs (i + 3)) hC
    refine lv_istore (lv' := [(5, .int (cMark S (kdS S) (xs (i + 1)) (xs (i + 2)) (xs (i + 3)))), (4, .int (nI i)), (0, .ref b), (1, .ref (ad1 0 0)), (2, .ref (ad1 16 0)), (3, .ref (ad1 18 0))]) hx hb dL_law_563 hl (by decide) rfl (fun ls hl => ?_)
    refine lv_aload_n hx hb dL_law_565 rfl (lv_at hl 4 rfl) ?_
    refine lv_aload_n hx hb dL_law_566 rfl (lv_at hl 2 rfl) ?_
    refine lv_iload hx hb dL_law_567 (lv_at hl 1 rfl) ?_
    refine lv_iconst (v := 1) hx hb dL_law_569 (by decide) ?_
    refine lv_iadd hx hb dL_law_570 ?_
    refine lv_topi (fun x_570 e_570 => ?_)
    obtain rfl : x_570 = nI (i + 1) := e_570.trans (nI_1 _)
    refine va_sld hx hb hX hbl (Nat.not_le.mpr hbl) X.2 (vp_in_nI (show i + 1 < L by omega) (by omega)) dL_law_571 ?_
    refine lv_topi (fun x_571 e_571 => ?_)
    obtain rfl : x_571 = xs (i + 1) := e_571.trans (by rw [nI_clamp (by omega)])
    refine lv_aload_n hx hb dL_law_572 rfl (lv_at hl 2 rfl) ?_
    refine lv_iload hx hb dL_law_573 (lv_at hl 1 rfl) ?_
    refine lv_iconst (v := 2) hx hb dL_law_575 (by decide) ?_
    refine lv_iadd hx hb dL_law_576 ?_
    refine lv_topi (fun x_576 e_576 => ?_)
    obtain rfl : x_576 = nI (i + 2) := e_576.trans (nI_add _ 2)
    refine va_sld hx hb hX hbl (Nat.not_le.mpr hbl) X.2 (vp_in_nI (show i + 2 < L by omega) (by omega)) dL_law_577 ?_
    refine lv_topi (fun x_577 e_577 => ?_)
    obtain rfl : x_577 = xs (i + 2) := e_577.trans (by rw [nI_clamp (by omega)])
    refine lv_aload_n hx hb dL_law_578 rfl (lv_at hl 2 rfl) ?_
    refine lv_iload hx hb dL_law_579 (lv_at hl 1 rfl) ?_
    refine lv_iconst (v := 3) hx hb dL_law_581 (by decide) ?_
    refine lv_iadd hx hb dL_law_582 ?_
    refine lv_topi (fun x_582 e_582 => ?_)
    obtain rfl : x_582 = nI (i + 3) := e_582.trans (nI_add _ 3)
    refine va_sld hx hb hX hbl (Nat.not_le.mpr hbl) X.2 (vp_in_nI (show i + 3 < L by omega) (by omega)) dL_law_583 ?_
    refine lv_topi (fun x_583 e_583 => ?_)
    obtain rfl : x_583 = xs (i + 3) := e_583.trans (by rw [nI_clamp (by omega)])
    refine k_Ri X (k_runV (As := [.int (xs (i + 1)), .int (xs (i + 2)), .int (xs (i + 3))]) (rest := []) Z X (c_X8_mark l s G (oMarkC S (xs (i + 1)) (xs (i + 2)) (xs (i + 3))) T ((nI (cntN (oMarkC S (xs (i + 1)) (xs (i + 2)) (xs (i + 3))) (kdS (oMarkC S (xs (i + 1)) (xs (i + 2)) (xs (i + 3))) (cl (xs (i + 2)))) (S.2 0 0))).toInt64) ad1 (xs (i + 1)) (xs (i + 2)) (xs (i + 3)) (okN_e hEq hS) ) (k_cwV 3 Z.1.2.2.2.2 (inU_18 _ (List.mem_of_getElem? (i := 21) rfl)) (inU_18 _ (List.mem_of_getElem? (i := 22) rfl)) (inU_18 _ (List.mem_of_getElem? (i := 23) rfl)) (inU_1 _ (List.mem_of_getElem? (i := 5) rfl)) (inU_19 _ (List.mem_of_getElem? (i := 0) rfl)) rfl rfl (by decide +kernel) ⟨Nat.le_of_ble_eq_true rfl, Nat.le_of_ble_eq_true rfl⟩) (k_recv Z X ct_16 rfl) rfl hl.1 rfl (Nat.le_of_ble_eq_true rfl) dL_law_584 ⟨r1, r2⟩) (fun r_584 ad2 ct2 H locs hp X => ?_)
    obtain ⟨hv, ha_, hb_⟩ := hp
    rw [if_pos hCT] at hb_
    rw [← ha_, hb_] at X
    have hv2 : r_584 = nI (cntN (oMarkC S (xs (i + 1)) (xs (i + 2)) (xs (i + 3))) (kdS (oMarkC S (xs (i + 1)) (xs (i + 2)) (xs (i + 3))) (cl (xs (i + 2)))) (S.2 0 0)) := (hv hCT).trans hval.symm
    subst hv2
    refine lv_istore (lv' := [(6, .int (nI (cntN (oMarkC S (xs (i + 1)) (xs (i + 2)) (xs (i + 3))) (kdS (oMarkC S (xs (i + 1)) (xs (i + 2)) (xs (i + 3))) (cl (xs (i + 2)))) (S.2 0 0)))), (5, .int (cMark S (kdS S) (xs (i + 1)) (xs (i + 2)) (xs (i + 3)))), (4, .int (nI i)), (0, .ref b), (1, .ref (ad1 0 0)), (2, .ref (ad1 16 0)), (3, .ref (ad1 18 0))]) hx hb dL_law_587 hl (by decide) rfl (fun ls hl => ?_)
    refine lv_aload_n hx hb dL_law_589 rfl (lv_at hl 5 rfl) ?_
    refine k_Ri X (k_runV (As := []) (rest := []) Z X (c_X8_thrown l s G (oMarkC S (xs (i + 1)) (xs (i + 2)) (xs (i + 3))) (oMarkM (sI T 24 0 0) (xs (i + 1)) (xs (i + 2)) (xs (i + 3))) ((nI (cntN (oMarkC S (xs (i + 1)) (xs (i + 2)) (xs (i + 3))) (kdS (oMarkC S (xs (i + 1)) (xs (i + 2)) (xs (i + 3))) (cl (xs (i + 2)))) (S.2 0 0))).toInt64) ad1) (k_cwV 0 Z.1.2.2.2.2 (inU_9 _ (List.mem_of_getElem? (i := 7) rfl)) (inU_9 _ (List.mem_of_getElem? (i := 8) rfl)) (inU_9 _ (List.mem_of_getElem? (i := 9) rfl)) (inU_1 _ (List.mem_of_getElem? (i := 5) rfl)) (inU_9 _ (List.mem_of_getElem? (i := 10) rfl)) rfl rfl (by decide +kernel) ⟨Nat.le_of_ble_eq_true rfl, Nat.le_of_ble_eq_true rfl⟩) (k_recv Z X ct_16 rfl) rfl hl.1 rfl (Nat.le_of_ble_eq_true rfl) dL_law_590 ⟨r1, r2⟩) (fun r_590 ad2 ct2 H locs hp X => ?_)
    obtain ⟨rfl, ha_, hb_⟩ := hp
    rw [← ha_, hb_] at X
    refine lv_iload hx hb dL_law_593 (lv_at hl 1 rfl) ?_
    refine lv_icmp_eq (tgt := 600) hx hb dL_law_595 (by decide) (fun c_595 => ?_) (fun c_595 => ?_)
    · refine lv_iload hx hb dL_law_600 (lv_at hl 1 rfl) ?_
      refine lv_if_ne (tgt := 617) hx hb dL_law_602 (by decide) (fun c_602 => ?_) (fun c_602 => ?_)
      · exact absurd hC c_602
      · refine lv_aload_n hx hb dL_law_605 rfl (lv_at hl 6 rfl) ?_
        refine lv_iconst (v := 0) hx hb dL_law_606 (by decide) ?_
        refine k_lld (ad := ad1) (k := 18) (i := 0) Z X ct_18 (by unfold vp_in; decide) dL_law_607 ?_
        refine lv_iload hx hb dL_law_608 (lv_at hl 0 rfl) ?_
        refine lv_i2l (v := (nI (cntN (oMarkC S (xs (i + 1)) (xs (i + 2)) (xs (i + 3))) (kdS (oMarkC S (xs (i + 1)) (xs (i + 2)) (xs (i + 3))) (cl (xs (i + 2)))) (S.2 0 0))).toInt64) hx hb dL_law_610 rfl ?_
        refine W.lcmp hx hb dL_law_611 ?_
        refine lv_topi (fun x_611 e_611 => ?_)
        obtain rfl : x_611 = 0 := e_611.trans (lg_self _)
        refine lv_if_eq (tgt := 617) hx hb dL_law_612 (by decide) (fun c_612 => ?_) (fun c_612 => ?_)
        · refine lv_goto (tgt := 1522) hx hb dL_law_617 (by decide) ?_
          exact K _ _ _ _ _ _ _ hT1 X (lv_sub hl [2, 3, 4, 5, 6] rfl)
        · exact absurd c_612 (by decide)
    · exact absurd (h24.trans hC.symm) c_595
  · have hCe : cMark S (kdS S) (xs (i + 1)) (xs (i + 2)) (xs (i + 3)) = cMark T (kdT T) (xs (i + 1)) (xs (i + 2)) (xs (i + 3)) := cMark_e hEq hS hKd (xs (i + 1)) (xs (i + 2)) (xs (i + 3))
    have hCT : ¬ cMark T (kdT T) (xs (i + 1)) (xs (i + 2)) (xs (i + 3)) = 0 := fun z => hC (hCe.trans z)
    refine lv_istore (lv' := [(5, .int (cMark S (kdS S) (xs (i + 1)) (xs (i + 2)) (xs (i + 3)))), (4, .int (nI i)), (0, .ref b), (1, .ref (ad1 0 0)), (2, .ref (ad1 16 0)), (3, .ref (ad1 18 0))]) hx hb dL_law_563 hl (by decide) rfl (fun ls hl => ?_)
    refine lv_aload_n hx hb dL_law_565 rfl (lv_at hl 4 rfl) ?_
    refine lv_aload_n hx hb dL_law_566 rfl (lv_at hl 2 rfl) ?_
    refine lv_iload hx hb dL_law_567 (lv_at hl 1 rfl) ?_
    refine lv_iconst (v := 1) hx hb dL_law_569 (by decide) ?_
    refine lv_iadd hx hb dL_law_570 ?_
    refine lv_topi (fun x_570 e_570 => ?_)
    obtain rfl : x_570 = nI (i + 1) := e_570.trans (nI_1 _)
    refine va_sld hx hb hX hbl (Nat.not_le.mpr hbl) X.2 (vp_in_nI (show i + 1 < L by omega) (by omega)) dL_law_571 ?_
    refine lv_topi (fun x_571 e_571 => ?_)
    obtain rfl : x_571 = xs (i + 1) := e_571.trans (by rw [nI_clamp (by omega)])
    refine lv_aload_n hx hb dL_law_572 rfl (lv_at hl 2 rfl) ?_
    refine lv_iload hx hb dL_law_573 (lv_at hl 1 rfl) ?_
    refine lv_iconst (v := 2) hx hb dL_law_575 (by decide) ?_
    refine lv_iadd hx hb dL_law_576 ?_
    refine lv_topi (fun x_576 e_576 => ?_)
    obtain rfl : x_576 = nI (i + 2) := e_576.trans (nI_add _ 2)
    refine va_sld hx hb hX hbl (Nat.not_le.mpr hbl) X.2 (vp_in_nI (show i + 2 < L by omega) (by omega)) dL_law_577 ?_
    refine lv_topi (fun x_577 e_577 => ?_)
    obtain rfl : x_577 = xs (i + 2) := e_577.trans (by rw [nI_clamp (by omega)])
    refine lv_aload_n hx hb dL_law_578 rfl (lv_at hl 2 rfl) ?_
    refine lv_iload hx hb dL_law_579 (lv_at hl 1 rfl) ?_
    refine lv_iconst (v := 3) hx hb dL_law_581 (by decide) ?_
    refine lv_iadd hx hb dL_law_582 ?_
    refine lv_topi (fun x_582 e_582 => ?_)
    obtain rfl : x_582 = nI (i + 3) := e_582.trans (nI_add _ 3)
    refine va_sld hx hb hX hbl (Nat.not_le.mpr hbl) X.2 (vp_in_nI (show i + 3 < L by omega) (by omega)) dL_law_583 ?_
    refine lv_topi (fun x_583 e_583 => ?_)
    obtain rfl : x_583 = xs (i + 3) := e_583.trans (by rw [nI_clamp (by omega)])
    refine k_Ri X (k_runV (As := [.int (xs (i + 1)), .int (xs (i + 2)), .int (xs (i + 3))]) (rest := []) Z X (c_X8_mark l s G S T o ad1 (xs (i + 1)) (xs (i + 2)) (xs (i + 3)) (okN_e hEq hS) ) (k_cwV 3 Z.1.2.2.2.2 (inU_18 _ (List.mem_of_getElem? (i := 21) rfl)) (inU_18 _ (List.mem_of_getElem? (i := 22) rfl)) (inU_18 _ (List.mem_of_getElem? (i := 23) rfl)) (inU_1 _ (List.mem_of_getElem? (i := 5) rfl)) (inU_19 _ (List.mem_of_getElem? (i := 0) rfl)) rfl rfl (by decide +kernel) ⟨Nat.le_of_ble_eq_true rfl, Nat.le_of_ble_eq_true rfl⟩) (k_recv Z X ct_16 rfl) rfl hl.1 rfl (Nat.le_of_ble_eq_true rfl) dL_law_584 ⟨r1, r2⟩) (fun r_584 ad2 ct2 H locs hp X => ?_)
    obtain ⟨hv, ha_, hb_⟩ := hp
    rw [if_neg hCT] at hb_
    rw [← ha_, hb_] at X
    refine lv_istore (lv' := [(6, .int r_584), (5, .int (cMark S (kdS S) (xs (i + 1)) (xs (i + 2)) (xs (i + 3)))), (4, .int (nI i)), (0, .ref b), (1, .ref (ad1 0 0)), (2, .ref (ad1 16 0)), (3, .ref (ad1 18 0))]) hx hb dL_law_587 hl (by decide) rfl (fun ls hl => ?_)
    refine lv_aload_n hx hb dL_law_589 rfl (lv_at hl 5 rfl) ?_
    refine k_Ri X (k_runV (As := []) (rest := []) Z X (c_X8_thrown l s G S (sI T 24 0 (cMark T (kdT T) (xs (i + 1)) (xs (i + 2)) (xs (i + 3)))) o ad1) (k_cwV 0 Z.1.2.2.2.2 (inU_9 _ (List.mem_of_getElem? (i := 7) rfl)) (inU_9 _ (List.mem_of_getElem? (i := 8) rfl)) (inU_9 _ (List.mem_of_getElem? (i := 9) rfl)) (inU_1 _ (List.mem_of_getElem? (i := 5) rfl)) (inU_9 _ (List.mem_of_getElem? (i := 10) rfl)) rfl rfl (by decide +kernel) ⟨Nat.le_of_ble_eq_true rfl, Nat.le_of_ble_eq_true rfl⟩) (k_recv Z X ct_16 rfl) rfl hl.1 rfl (Nat.le_of_ble_eq_true rfl) dL_law_590 ⟨r1, r2⟩) (fun r_590 ad2 ct2 H locs hp X => ?_)
    obtain ⟨rfl, ha_, hb_⟩ := hp
    rw [← ha_, hb_] at X
    refine lv_iload hx hb dL_law_593 (lv_at hl 1 rfl) ?_
    refine lv_icmp_eq (tgt := 600) hx hb dL_law_595 (by decide) (fun c_595 => ?_) (fun c_595 => ?_)
    · refine lv_iload hx hb dL_law_600 (lv_at hl 1 rfl) ?_
      refine lv_if_ne (tgt := 617) hx hb dL_law_602 (by decide) (fun c_602 => ?_) (fun c_602 => ?_)
      · refine lv_goto (tgt := 1522) hx hb dL_law_617 (by decide) ?_
        exact K _ _ _ _ _ _ _ ((hTie.t24 _).up (Nat.le_succ n)) X (lv_sub hl [2, 3, 4, 5, 6] rfl)
      · exact absurd c_602 hC
    · exact absurd (sI_s.trans hCe.symm) c_595
set_option maxHeartbeats 1000000 in
set_option maxRecDepth 100000 in
theorem a_spend (hE : kE l s G) (Z : kZ p m c code 7 s #[Value.ref b] wsL_law RL s G) (hX : va_X b L xs s s.heap) (hbl : b < s.heap.size) (hTie : Tie n S T) (hn : n < 512) (X : kX s G s H locs ad (cto G S T o ad)) (hl : lv_has ls 7 (lwLv b i ad)) (hi : i + 5 ≤ L) (hL9 : L ≤ 2560) (r1 : cells + 20 ≤ room_1.cells) (r2 : slots + 400 ≤ room_1.slots) (K : lwK p l e s m below meth c G b i (n + 1) (cells + 20) (slots + 400) Q) : W p l e room_1 s m #[Value.ref b] below meth c H locs cells slots Q (F0 m 620 ls []) := by
  have hx := Z.1.1
  have hb := Z.1.2.1
  have hl : lv_has ls 7 [(4, .int (nI i)), (0, .ref b), (1, .ref (ad 0 0)), (2, .ref (ad 16 0)), (3, .ref (ad 18 0))] := hl
  obtain ⟨⟨hEq, hKd, hS, hLk, hM, hG9, hc9, hV, hB, hM22⟩, hSe⟩ := id hTie
  refine lv_aload_n hx hb dL_law_620 rfl (lv_at hl 2 rfl) ?_
  refine lv_aload_n hx hb dL_law_621 rfl (lv_at hl 1 rfl) ?_
  refine lv_iload hx hb dL_law_622 (lv_at hl 0 rfl) ?_
  refine lv_iconst (v := 1) hx hb dL_law_624 (by decide) ?_
  refine lv_iadd hx hb dL_law_625 ?_
  refine lv_topi (fun x_625 e_625 => ?_)
  obtain rfl : x_625 = nI (i + 1) := e_625.trans (nI_1 _)
  refine va_sld hx hb hX hbl (Nat.not_le.mpr hbl) X.2 (vp_in_nI (show i + 1 < L by omega) (by omega)) dL_law_626 ?_
  refine lv_topi (fun x_626 e_626 => ?_)
  obtain rfl : x_626 = xs (i + 1) := e_626.trans (by rw [nI_clamp (by omega)])
  refine lv_aload_n hx hb dL_law_627 rfl (lv_at hl 1 rfl) ?_
  refine lv_iload hx hb dL_law_628 (lv_at hl 0 rfl) ?_
  refine lv_iconst (v := 2) hx hb dL_law_630 (by decide) ?_
  refine lv_iadd hx hb dL_law_631 ?_
  refine lv_topi (fun x_631 e_631 => ?_)
  obtain rfl : x_631 = nI (i + 2) := e_631.trans (nI_add _ 2)
  refine va_sld hx hb hX hbl (Nat.not_le.mpr hbl) X.2 (vp_in_nI (show i + 2 < L by omega) (by omega)) dL_law_632 ?_
  refine lv_topi (fun x_632 e_632 => ?_)
  obtain rfl : x_632 = xs (i + 2) := e_632.trans (by rw [nI_clamp (by omega)])
  refine lv_aload_n hx hb dL_law_633 rfl (lv_at hl 1 rfl) ?_
  refine lv_iload hx hb dL_law_634 (lv_at hl 0 rfl) ?_
  refine lv_iconst (v := 3) hx hb dL_law_636 (by decide) ?_
  refine lv_iadd hx hb dL_law_637 ?_
  refine lv_topi (fun x_637 e_637 => ?_)
  obtain rfl : x_637 = nI (i + 3) := e_637.trans (nI_add _ 3)
  refine va_sld hx hb hX hbl (Nat.not_le.mpr hbl) X.2 (vp_in_nI (show i + 3 < L by omega) (by omega)) dL_law_638 ?_
  refine lv_topi (fun x_638 e_638 => ?_)
  obtain rfl : x_638 = xs (i + 3) := e_638.trans (by rw [nI_clamp (by omega)])
  refine lv_aload_n hx hb dL_law_639 rfl (lv_at hl 4 rfl) ?_
  refine k_xRi X (k_xrunSW (As := [.ref (ad 0 0), .int (xs (i + 1)), .int (xs (i + 2)), .int (xs (i + 3)), .ref (ad 18 0)]) (rest := []) Z X (c_L_spend l s G S T o ad (xs (i + 1)) (xs (i + 2)) (xs (i + 3)) hE hS hLk (fun a u ha hu => (hM a u ha hu).1)) (k_cwSW 5 Z.1.2.2.2.2 (inU_19 _ (List.mem_of_getElem? (i := 5) rfl)) (inU_19 _ (List.mem_of_getElem? (i := 6) rfl)) (inU_7 _ (List.mem_of_getElem? (i := 7) rfl)) (inU_19 _ (List.mem_of_getElem? (i := 7) rfl)) rfl rfl (by decide +kernel) ⟨(Nat.le_of_ble_eq_true rfl), (Nat.le_of_ble_eq_true rfl)⟩) rfl hl.1 rfl (Nat.le_of_ble_eq_true rfl) dL_law_640 ⟨r1, r2⟩) (fun _ _ _ _ _ _ _ hp => hp.elim) (fun r_640 ad1 ct1 H locs hp X => ?_)
  obtain ⟨rfl, hAK, hq⟩ := hp
  rw [← hAK.1, ← hAK.2.1, ← hAK.2.2] at hl
  rcases hq with ⟨hC, S1, hR1, rfl⟩ | ⟨hC, rfl⟩
  · have hCe : cSpend S (kdS S) (xs (i + 1)) (xs (i + 2)) (xs (i + 3)) = cSpend T (kdT T) (xs (i + 1)) (xs (i + 2)) (xs (i + 3)) := cSpend_e hEq hS hKd (xs (i + 1)) (xs (i + 2)) (xs (i + 3))
    obtain ⟨cap, hcap, rfl⟩ := hR1
    have hCT : cSpend T (kdT T) (xs (i + 1)) (xs (i + 2)) (xs (i + 3)) = 0 := hCe.symm.trans hC
    have hT1 := t_spend hTie (xs (i + 1)) (xs (i + 2)) (xs (i + 3)) hC hcap
    have h24 : (oSpend (sI T 24 0 0) (xs (i + 2)) (xs (i + 3))).1 24 0 = 0 := oSpend_24
    have hval : nI (S.2 0 2) = nI (T.2 0 2) := by rw [hEq.c (j := 2)]
    refine lv_istore (lv' := [(5, .int (cSpend S (kdS S) (xs (i + 1)) (xs (i + 2)) (xs (i + 3)))), (4, .int (nI i)), (0, .ref b), (1, .ref (ad1 0 0)), (2, .ref (ad1 16 0)), (3, .ref (ad1 18 0))]) hx hb dL_law_643 hl (by decide) rfl (fun ls hl => ?_)
    refine lv_aload_n hx hb dL_law_645 rfl (lv_at hl 4 rfl) ?_
    refine lv_aload_n hx hb dL_law_646 rfl (lv_at hl 2 rfl) ?_
    refine lv_iload hx hb dL_law_647 (lv_at hl 1 rfl) ?_
    refine lv_iconst (v := 1) hx hb dL_law_649 (by decide) ?_
    refine lv_iadd hx hb dL_law_650 ?_
    refine lv_topi (fun x_650 e_650 => ?_)
    obtain rfl : x_650 = nI (i + 1) := e_650.trans (nI_1 _)
    refine va_sld hx hb hX hbl (Nat.not_le.mpr hbl) X.2 (vp_in_nI (show i + 1 < L by omega) (by omega)) dL_law_651 ?_
    refine lv_topi (fun x_651 e_651 => ?_)
    obtain rfl : x_651 = xs (i + 1) := e_651.trans (by rw [nI_clamp (by omega)])
    refine lv_aload_n hx hb dL_law_652 rfl (lv_at hl 2 rfl) ?_
    refine lv_iload hx hb dL_law_653 (lv_at hl 1 rfl) ?_
    refine lv_iconst (v := 2) hx hb dL_law_655 (by decide) ?_
    refine lv_iadd hx hb dL_law_656 ?_
    refine lv_topi (fun x_656 e_656 => ?_)
    obtain rfl : x_656 = nI (i + 2) := e_656.trans (nI_add _ 2)
    refine va_sld hx hb hX hbl (Nat.not_le.mpr hbl) X.2 (vp_in_nI (show i + 2 < L by omega) (by omega)) dL_law_657 ?_
    refine lv_topi (fun x_657 e_657 => ?_)
    obtain rfl : x_657 = xs (i + 2) := e_657.trans (by rw [nI_clamp (by omega)])
    refine lv_aload_n hx hb dL_law_658 rfl (lv_at hl 2 rfl) ?_
    refine lv_iload hx hb dL_law_659 (lv_at hl 1 rfl) ?_
    refine lv_iconst (v := 3) hx hb dL_law_661 (by decide) ?_
    refine lv_iadd hx hb dL_law_662 ?_
    refine lv_topi (fun x_662 e_662 => ?_)
    obtain rfl : x_662 = nI (i + 3) := e_662.trans (nI_add _ 3)
    refine va_sld hx hb hX hbl (Nat.not_le.mpr hbl) X.2 (vp_in_nI (show i + 3 < L by omega) (by omega)) dL_law_663 ?_
    refine lv_topi (fun x_663 e_663 => ?_)
    obtain rfl : x_663 = xs (i + 3) := e_663.trans (by rw [nI_clamp (by omega)])
    refine k_Ri X (k_runV (As := [.int (xs (i + 1)), .int (xs (i + 2)), .int (xs (i + 3))]) (rest := []) Z X (c_X8_spend l s G (gS S (xs (i + 2)) (xs (i + 3)) cap) T ((nI (S.2 0 2)).toInt64) ad1 (xs (i + 1)) (xs (i + 2)) (xs (i + 3)) (okN_e hEq hS) ) (k_cwV 3 Z.1.2.2.2.2 (inU_20 _ (List.mem_of_getElem? (i := 2) rfl)) (inU_20 _ (List.mem_of_getElem? (i := 3) rfl)) (inU_20 _ (List.mem_of_getElem? (i := 4) rfl)) (inU_1 _ (List.mem_of_getElem? (i := 5) rfl)) (inU_20 _ (List.mem_of_getElem? (i := 5) rfl)) rfl rfl (by decide +kernel) ⟨Nat.le_of_ble_eq_true rfl, Nat.le_of_ble_eq_true rfl⟩) (k_recv Z X ct_16 rfl) rfl hl.1 rfl (Nat.le_of_ble_eq_true rfl) dL_law_664 ⟨r1, r2⟩) (fun r_664 ad2 ct2 H locs hp X => ?_)
    obtain ⟨hv, ha_, hb_⟩ := hp
    rw [if_pos hCT] at hb_
    rw [← ha_, hb_] at X
    have hv2 : r_664 = nI (S.2 0 2) := (hv hCT).trans hval.symm
    subst hv2
    refine lv_istore (lv' := [(6, .int (nI (S.2 0 2))), (5, .int (cSpend S (kdS S) (xs (i + 1)) (xs (i + 2)) (xs (i + 3)))), (4, .int (nI i)), (0, .ref b), (1, .ref (ad1 0 0)), (2, .ref (ad1 16 0)), (3, .ref (ad1 18 0))]) hx hb dL_law_667 hl (by decide) rfl (fun ls hl => ?_)
    refine lv_aload_n hx hb dL_law_669 rfl (lv_at hl 5 rfl) ?_
    refine k_Ri X (k_runV (As := []) (rest := []) Z X (c_X8_thrown l s G (gS S (xs (i + 2)) (xs (i + 3)) cap) (oSpend (sI T 24 0 0) (xs (i + 2)) (xs (i + 3))) ((nI (S.2 0 2)).toInt64) ad1) (k_cwV 0 Z.1.2.2.2.2 (inU_9 _ (List.mem_of_getElem? (i := 7) rfl)) (inU_9 _ (List.mem_of_getElem? (i := 8) rfl)) (inU_9 _ (List.mem_of_getElem? (i := 9) rfl)) (inU_1 _ (List.mem_of_getElem? (i := 5) rfl)) (inU_9 _ (List.mem_of_getElem? (i := 10) rfl)) rfl rfl (by decide +kernel) ⟨Nat.le_of_ble_eq_true rfl, Nat.le_of_ble_eq_true rfl⟩) (k_recv Z X ct_16 rfl) rfl hl.1 rfl (Nat.le_of_ble_eq_true rfl) dL_law_670 ⟨r1, r2⟩) (fun r_670 ad2 ct2 H locs hp X => ?_)
    obtain ⟨rfl, ha_, hb_⟩ := hp
    rw [← ha_, hb_] at X
    refine lv_iload hx hb dL_law_673 (lv_at hl 1 rfl) ?_
    refine lv_icmp_eq (tgt := 680) hx hb dL_law_675 (by decide) (fun c_675 => ?_) (fun c_675 => ?_)
    · refine lv_iload hx hb dL_law_680 (lv_at hl 1 rfl) ?_
      refine lv_if_ne (tgt := 697) hx hb dL_law_682 (by decide) (fun c_682 => ?_) (fun c_682 => ?_)
      · exact absurd hC c_682
      · refine lv_aload_n hx hb dL_law_685 rfl (lv_at hl 6 rfl) ?_
        refine lv_iconst (v := 0) hx hb dL_law_686 (by decide) ?_
        refine k_lld (ad := ad1) (k := 18) (i := 0) Z X ct_18 (by unfold vp_in; decide) dL_law_687 ?_
        refine lv_iload hx hb dL_law_688 (lv_at hl 0 rfl) ?_
        refine lv_i2l (v := (nI (S.2 0 2)).toInt64) hx hb dL_law_690 rfl ?_
        refine W.lcmp hx hb dL_law_691 ?_
        refine lv_topi (fun x_691 e_691 => ?_)
        obtain rfl : x_691 = 0 := e_691.trans (lg_self _)
        refine lv_if_eq (tgt := 697) hx hb dL_law_692 (by decide) (fun c_692 => ?_) (fun c_692 => ?_)
        · refine lv_goto (tgt := 1522) hx hb dL_law_697 (by decide) ?_
          exact K _ _ _ _ _ _ _ hT1 X (lv_sub hl [2, 3, 4, 5, 6] rfl)
        · exact absurd c_692 (by decide)
    · exact absurd (h24.trans hC.symm) c_675
  · have hCe : cSpend S (kdS S) (xs (i + 1)) (xs (i + 2)) (xs (i + 3)) = cSpend T (kdT T) (xs (i + 1)) (xs (i + 2)) (xs (i + 3)) := cSpend_e hEq hS hKd (xs (i + 1)) (xs (i + 2)) (xs (i + 3))
    have hCT : ¬ cSpend T (kdT T) (xs (i + 1)) (xs (i + 2)) (xs (i + 3)) = 0 := fun z => hC (hCe.trans z)
    refine lv_istore (lv' := [(5, .int (cSpend S (kdS S) (xs (i + 1)) (xs (i + 2)) (xs (i + 3)))), (4, .int (nI i)), (0, .ref b), (1, .ref (ad1 0 0)), (2, .ref (ad1 16 0)), (3, .ref (ad1 18 0))]) hx hb dL_law_643 hl (by decide) rfl (fun ls hl => ?_)
    refine lv_aload_n hx hb dL_law_645 rfl (lv_at hl 4 rfl) ?_
    refine lv_aload_n hx hb dL_law_646 rfl (lv_at hl 2 rfl) ?_
    refine lv_iload hx hb dL_law_647 (lv_at hl 1 rfl) ?_
    refine lv_iconst (v := 1) hx hb dL_law_649 (by decide) ?_
    refine lv_iadd hx hb dL_law_650 ?_
    refine lv_topi (fun x_650 e_650 => ?_)
    obtain rfl : x_650 = nI (i + 1) := e_650.trans (nI_1 _)
    refine va_sld hx hb hX hbl (Nat.not_le.mpr hbl) X.2 (vp_in_nI (show i + 1 < L by omega) (by omega)) dL_law_651 ?_
    refine lv_topi (fun x_651 e_651 => ?_)
    obtain rfl : x_651 = xs (i + 1) := e_651.trans (by rw [nI_clamp (by omega)])
    refine lv_aload_n hx hb dL_law_652 rfl (lv_at hl 2 rfl) ?_
    refine lv_iload hx hb dL_law_653 (lv_at hl 1 rfl) ?_
    refine lv_iconst (v := 2) hx hb dL_law_655 (by decide) ?_
    refine lv_iadd hx hb dL_law_656 ?_
    refine lv_topi (fun x_656 e_656 => ?_)
    obtain rfl : x_656 = nI (i + 2) := e_656.trans (nI_add _ 2)
    refine va_sld hx hb hX hbl (Nat.not_le.mpr hbl) X.2 (vp_in_nI (show i + 2 < L by omega) (by omega)) dL_law_657 ?_
    refine lv_topi (fun x_657 e_657 => ?_)
    obtain rfl : x_657 = xs (i + 2) := e_657.trans (by rw [nI_clamp (by omega)])
    refine lv_aload_n hx hb dL_law_658 rfl (lv_at hl 2 rfl) ?_
    refine lv_iload hx hb dL_law_659 (lv_at hl 1 rfl) ?_
    refine lv_iconst (v := 3) hx hb dL_law_661 (by decide) ?_
    refine lv_iadd hx hb dL_law_662 ?_
    refine lv_topi (fun x_662 e_662 => ?_)
    obtain rfl : x_662 = nI (i + 3) := e_662.trans (nI_add _ 3)
    refine va_sld hx hb hX hbl (Nat.not_le.mpr hbl) X.2 (vp_in_nI (show i + 3 < L by omega) (by omega)) dL_law_663 ?_
    refine lv_topi (fun x_663 e_663 => ?_)
    obtain rfl : x_663 = xs (i + 3) := e_663.trans (by rw [nI_clamp (by omega)])
    refine k_Ri X (k_runV (As := [.int (xs (i + 1)), .int (xs (i + 2)), .int (xs (i + 3))]) (rest := []) Z X (c_X8_spend l s G S T o ad1 (xs (i + 1)) (xs (i + 2)) (xs (i + 3)) (okN_e hEq hS) ) (k_cwV 3 Z.1.2.2.2.2 (inU_20 _ (List.mem_of_getElem? (i := 2) rfl)) (inU_20 _ (List.mem_of_getElem? (i := 3) rfl)) (inU_20 _ (List.mem_of_getElem? (i := 4) rfl)) (inU_1 _ (List.mem_of_getElem? (i := 5) rfl)) (inU_20 _ (List.mem_of_getElem? (i := 5) rfl)) rfl rfl (by decide +kernel) ⟨Nat.le_of_ble_eq_true rfl, Nat.le_of_ble_eq_true rfl⟩) (k_recv Z X ct_16 rfl) rfl hl.1 rfl (Nat.le_of_ble_eq_true rfl) dL_law_664 ⟨r1, r2⟩) (fun r_664 ad2 ct2 H locs hp X => ?_)
    obtain ⟨hv, ha_, hb_⟩ := hp
    rw [if_neg hCT] at hb_
    rw [← ha_, hb_] at X
    refine lv_istore (lv' := [(6, .int r_664), (5, .int (cSpend S (kdS S) (xs (i + 1)) (xs (i + 2)) (xs (i + 3)))), (4, .int (nI i)), (0, .ref b), (1, .ref (ad1 0 0)), (2, .ref (ad1 16 0)), (3, .ref (ad1 18 0))]) hx hb dL_law_667 hl (by decide) rfl (fun ls hl => ?_)
    refine lv_aload_n hx hb dL_law_669 rfl (lv_at hl 5 rfl) ?_
    refine k_Ri X (k_runV (As := []) (rest := []) Z X (c_X8_thrown l s G S (sI T 24 0 (cSpend T (kdT T) (xs (i + 1)) (xs (i + 2)) (xs (i + 3)))) o ad1) (k_cwV 0 Z.1.2.2.2.2 (inU_9 _ (List.mem_of_getElem? (i := 7) rfl)) (inU_9 _ (List.mem_of_getElem? (i := 8) rfl)) (inU_9 _ (List.mem_of_getElem? (i := 9) rfl)) (inU_1 _ (List.mem_of_getElem? (i := 5) rfl)) (inU_9 _ (List.mem_of_getElem? (i := 10) rfl)) rfl rfl (by decide +kernel) ⟨Nat.le_of_ble_eq_true rfl, Nat.le_of_ble_eq_true rfl⟩) (k_recv Z X ct_16 rfl) rfl hl.1 rfl (Nat.le_of_ble_eq_true rfl) dL_law_670 ⟨r1, r2⟩) (fun r_670 ad2 ct2 H locs hp X => ?_)
    obtain ⟨rfl, ha_, hb_⟩ := hp
    rw [← ha_, hb_] at X
    refine lv_iload hx hb dL_law_673 (lv_at hl 1 rfl) ?_
    refine lv_icmp_eq (tgt := 680) hx hb dL_law_675 (by decide) (fun c_675 => ?_) (fun c_675 => ?_)
    · refine lv_iload hx hb dL_law_680 (lv_at hl 1 rfl) ?_
      refine lv_if_ne (tgt := 697) hx hb dL_law_682 (by decide) (fun c_682 => ?_) (fun c_682 => ?_)
      · refine lv_goto (tgt := 1522) hx hb dL_law_697 (by decide) ?_
        exact K _ _ _ _ _ _ _ ((hTie.t24 _).up (Nat.le_succ n)) X (lv_sub hl [2, 3, 4, 5, 6] rfl)
      · exact absurd c_682 hC
    · exact absurd (sI_s.trans hCe.symm) c_675
set_option maxHeartbeats 1000000 in
set_option maxRecDepth 100000 in
theorem a_task (hE : kE l s G) (Z : kZ p m c code 7 s #[Value.ref b] wsL_law RL s G) (hX : va_X b L xs s s.heap) (hbl : b < s.heap.size) (hTie : Tie n S T) (hn : n < 512) (X : kX s G s H locs ad (cto G S T o ad)) (hl : lv_has ls 7 (lwLv b i ad)) (hi : i + 5 ≤ L) (hL9 : L ≤ 2560) (r1 : cells + 20 ≤ room_1.cells) (r2 : slots + 400 ≤ room_1.slots) (K : lwK p l e s m below meth c G b i (n + 1) (cells + 20) (slots + 400) Q) : W p l e room_1 s m #[Value.ref b] below meth c H locs cells slots Q (F0 m 700 ls []) := by
  have hx := Z.1.1
  have hb := Z.1.2.1
  have hl : lv_has ls 7 [(4, .int (nI i)), (0, .ref b), (1, .ref (ad 0 0)), (2, .ref (ad 16 0)), (3, .ref (ad 18 0))] := hl
  obtain ⟨⟨hEq, hKd, hS, hLk, hM, hG9, hc9, hV, hB, hM22⟩, hSe⟩ := id hTie
  refine lv_aload_n hx hb dL_law_700 rfl (lv_at hl 2 rfl) ?_
  refine lv_aload_n hx hb dL_law_701 rfl (lv_at hl 1 rfl) ?_
  refine lv_iload hx hb dL_law_702 (lv_at hl 0 rfl) ?_
  refine lv_iconst (v := 1) hx hb dL_law_704 (by decide) ?_
  refine lv_iadd hx hb dL_law_705 ?_
  refine lv_topi (fun x_705 e_705 => ?_)
  obtain rfl : x_705 = nI (i + 1) := e_705.trans (nI_1 _)
  refine va_sld hx hb hX hbl (Nat.not_le.mpr hbl) X.2 (vp_in_nI (show i + 1 < L by omega) (by omega)) dL_law_706 ?_
  refine lv_topi (fun x_706 e_706 => ?_)
  obtain rfl : x_706 = xs (i + 1) := e_706.trans (by rw [nI_clamp (by omega)])
  refine lv_aload_n hx hb dL_law_707 rfl (lv_at hl 1 rfl) ?_
  refine lv_iload hx hb dL_law_708 (lv_at hl 0 rfl) ?_
  refine lv_iconst (v := 2) hx hb dL_law_710 (by decide) ?_
  refine lv_iadd hx hb dL_law_711 ?_
  refine lv_topi (fun x_711 e_711 => ?_)
  obtain rfl : x_711 = nI (i + 2) := e_711.trans (nI_add _ 2)
  refine va_sld hx hb hX hbl (Nat.not_le.mpr hbl) X.2 (vp_in_nI (show i + 2 < L by omega) (by omega)) dL_law_712 ?_
  refine lv_topi (fun x_712 e_712 => ?_)
  obtain rfl : x_712 = xs (i + 2) := e_712.trans (by rw [nI_clamp (by omega)])
  refine lv_aload_n hx hb dL_law_713 rfl (lv_at hl 1 rfl) ?_
  refine lv_iload hx hb dL_law_714 (lv_at hl 0 rfl) ?_
  refine lv_iconst (v := 3) hx hb dL_law_716 (by decide) ?_
  refine lv_iadd hx hb dL_law_717 ?_
  refine lv_topi (fun x_717 e_717 => ?_)
  obtain rfl : x_717 = nI (i + 3) := e_717.trans (nI_add _ 3)
  refine va_sld hx hb hX hbl (Nat.not_le.mpr hbl) X.2 (vp_in_nI (show i + 3 < L by omega) (by omega)) dL_law_718 ?_
  refine lv_topi (fun x_718 e_718 => ?_)
  obtain rfl : x_718 = xs (i + 3) := e_718.trans (by rw [nI_clamp (by omega)])
  refine lv_aload_n hx hb dL_law_719 rfl (lv_at hl 1 rfl) ?_
  refine lv_iload hx hb dL_law_720 (lv_at hl 0 rfl) ?_
  refine lv_iconst (v := 4) hx hb dL_law_722 (by decide) ?_
  refine lv_iadd hx hb dL_law_723 ?_
  refine lv_topi (fun x_723 e_723 => ?_)
  obtain rfl : x_723 = nI (i + 4) := e_723.trans (nI_add _ 4)
  refine va_sld hx hb hX hbl (Nat.not_le.mpr hbl) X.2 (vp_in_nI (show i + 4 < L by omega) (by omega)) dL_law_724 ?_
  refine lv_topi (fun x_724 e_724 => ?_)
  obtain rfl : x_724 = xs (i + 4) := e_724.trans (by rw [nI_clamp (by omega)])
  refine lv_aload_n hx hb dL_law_725 rfl (lv_at hl 4 rfl) ?_
  refine k_xRi X (k_xrunSW (As := [.ref (ad 0 0), .int (xs (i + 1)), .int (xs (i + 2)), .int (xs (i + 3)), .int (xs (i + 4)), .ref (ad 18 0)]) (rest := []) Z X (c_L_task l s G S T o ad (xs (i + 1)) (xs (i + 2)) (xs (i + 3)) (xs (i + 4)) hE hS hLk (by obtain ⟨q, q1, q2⟩ := hB.1; exact ⟨q, by omega, q2⟩) (fun j => by obtain ⟨q, q1, q2⟩ := hB.2.1 j; exact ⟨q, by omega, q2⟩)) (k_cwSW 6 Z.1.2.2.2.2 (inU_20 _ (List.mem_of_getElem? (i := 6) rfl)) (inU_20 _ (List.mem_of_getElem? (i := 7) rfl)) (inU_7 _ (List.mem_of_getElem? (i := 7) rfl)) (inU_20 _ (List.mem_of_getElem? (i := 8) rfl)) rfl rfl (by decide +kernel) ⟨(Nat.le_of_ble_eq_true rfl), (Nat.le_of_ble_eq_true rfl)⟩) rfl hl.1 rfl (Nat.le_of_ble_eq_true rfl) dL_law_726 ⟨r1, r2⟩) (fun _ _ _ _ _ _ _ hp => hp.elim) (fun r_726 ad1 ct1 H locs hp X => ?_)
  obtain ⟨rfl, hAK, hq⟩ := hp
  rw [← hAK.1, ← hAK.2.1, ← hAK.2.2] at hl
  rcases hq with ⟨hC, S1, hR1, rfl⟩ | ⟨hC, rfl⟩
  · have hCe : cTask S (xs (i + 1)) (xs (i + 2)) (xs (i + 3)) (xs (i + 4)) = cTask T (xs (i + 1)) (xs (i + 2)) (xs (i + 3)) (xs (i + 4)) := cTask_e hEq (xs (i + 1)) (xs (i + 2)) (xs (i + 3)) (xs (i + 4))
    obtain ⟨cap, hcap, rfl⟩ := hR1
    have hCT : cTask T (xs (i + 1)) (xs (i + 2)) (xs (i + 3)) (xs (i + 4)) = 0 := hCe.symm.trans hC
    have hT1 := t_task hTie (xs (i + 1)) (xs (i + 2)) (xs (i + 3)) (xs (i + 4)) hC hcap
    have h24 : (oTask (sI T 24 0 0) (xs (i + 2)) (xs (i + 3)) (xs (i + 4))).1 24 0 = 0 := oTask_24
    have hval : nI (S.2 0 3) = nI (T.2 0 3) := by rw [hEq.c (j := 3)]
    refine lv_istore (lv' := [(5, .int (cTask S (xs (i + 1)) (xs (i + 2)) (xs (i + 3)) (xs (i + 4)))), (4, .int (nI i)), (0, .ref b), (1, .ref (ad1 0 0)), (2, .ref (ad1 16 0)), (3, .ref (ad1 18 0))]) hx hb dL_law_729 hl (by decide) rfl (fun ls hl => ?_)
    refine lv_aload_n hx hb dL_law_731 rfl (lv_at hl 4 rfl) ?_
    refine lv_aload_n hx hb dL_law_732 rfl (lv_at hl 2 rfl) ?_
    refine lv_iload hx hb dL_law_733 (lv_at hl 1 rfl) ?_
    refine lv_iconst (v := 1) hx hb dL_law_735 (by decide) ?_
    refine lv_iadd hx hb dL_law_736 ?_
    refine lv_topi (fun x_736 e_736 => ?_)
    obtain rfl : x_736 = nI (i + 1) := e_736.trans (nI_1 _)
    refine va_sld hx hb hX hbl (Nat.not_le.mpr hbl) X.2 (vp_in_nI (show i + 1 < L by omega) (by omega)) dL_law_737 ?_
    refine lv_topi (fun x_737 e_737 => ?_)
    obtain rfl : x_737 = xs (i + 1) := e_737.trans (by rw [nI_clamp (by omega)])
    refine lv_aload_n hx hb dL_law_738 rfl (lv_at hl 2 rfl) ?_
    refine lv_iload hx hb dL_law_739 (lv_at hl 1 rfl) ?_
    refine lv_iconst (v := 2) hx hb dL_law_741 (by decide) ?_
    refine lv_iadd hx hb dL_law_742 ?_
    refine lv_topi (fun x_742 e_742 => ?_)
    obtain rfl : x_742 = nI (i + 2) := e_742.trans (nI_add _ 2)
    refine va_sld hx hb hX hbl (Nat.not_le.mpr hbl) X.2 (vp_in_nI (show i + 2 < L by omega) (by omega)) dL_law_743 ?_
    refine lv_topi (fun x_743 e_743 => ?_)
    obtain rfl : x_743 = xs (i + 2) := e_743.trans (by rw [nI_clamp (by omega)])
    refine lv_aload_n hx hb dL_law_744 rfl (lv_at hl 2 rfl) ?_
    refine lv_iload hx hb dL_law_745 (lv_at hl 1 rfl) ?_
    refine lv_iconst (v := 3) hx hb dL_law_747 (by decide) ?_
    refine lv_iadd hx hb dL_law_748 ?_
    refine lv_topi (fun x_748 e_748 => ?_)
    obtain rfl : x_748 = nI (i + 3) := e_748.trans (nI_add _ 3)
    refine va_sld hx hb hX hbl (Nat.not_le.mpr hbl) X.2 (vp_in_nI (show i + 3 < L by omega) (by omega)) dL_law_749 ?_
    refine lv_topi (fun x_749 e_749 => ?_)
    obtain rfl : x_749 = xs (i + 3) := e_749.trans (by rw [nI_clamp (by omega)])
    refine lv_aload_n hx hb dL_law_750 rfl (lv_at hl 2 rfl) ?_
    refine lv_iload hx hb dL_law_751 (lv_at hl 1 rfl) ?_
    refine lv_iconst (v := 4) hx hb dL_law_753 (by decide) ?_
    refine lv_iadd hx hb dL_law_754 ?_
    refine lv_topi (fun x_754 e_754 => ?_)
    obtain rfl : x_754 = nI (i + 4) := e_754.trans (nI_add _ 4)
    refine va_sld hx hb hX hbl (Nat.not_le.mpr hbl) X.2 (vp_in_nI (show i + 4 < L by omega) (by omega)) dL_law_755 ?_
    refine lv_topi (fun x_755 e_755 => ?_)
    obtain rfl : x_755 = xs (i + 4) := e_755.trans (by rw [nI_clamp (by omega)])
    refine k_Ri X (k_runV (As := [.int (xs (i + 1)), .int (xs (i + 2)), .int (xs (i + 3)), .int (xs (i + 4))]) (rest := []) Z X (c_X8_task l s G (gT S (xs (i + 2)) (xs (i + 3)) (xs (i + 4)) cap) T ((nI (S.2 0 3)).toInt64) ad1 (xs (i + 1)) (xs (i + 2)) (xs (i + 3)) (xs (i + 4)) (okN_e hEq hS) ) (k_cwV 4 Z.1.2.2.2.2 (inU_29 _ (List.mem_of_getElem? (i := 7) rfl)) (inU_29 _ (List.mem_of_getElem? (i := 8) rfl)) (inU_29 _ (List.mem_of_getElem? (i := 9) rfl)) (inU_1 _ (List.mem_of_getElem? (i := 5) rfl)) (inU_29 _ (List.mem_of_getElem? (i := 10) rfl)) rfl rfl (by decide +kernel) ⟨Nat.le_of_ble_eq_true rfl, Nat.le_of_ble_eq_true rfl⟩) (k_recv Z X ct_16 rfl) rfl hl.1 rfl (Nat.le_of_ble_eq_true rfl) dL_law_756 ⟨r1, r2⟩) (fun r_756 ad2 ct2 H locs hp X => ?_)
    obtain ⟨hv, ha_, hb_⟩ := hp
    rw [if_pos hCT] at hb_
    rw [← ha_, hb_] at X
    have hv2 : r_756 = nI (S.2 0 3) := (hv hCT).trans hval.symm
    subst hv2
    refine lv_istore (lv' := [(6, .int (nI (S.2 0 3))), (5, .int (cTask S (xs (i + 1)) (xs (i + 2)) (xs (i + 3)) (xs (i + 4)))), (4, .int (nI i)), (0, .ref b), (1, .ref (ad1 0 0)), (2, .ref (ad1 16 0)), (3, .ref (ad1 18 0))]) hx hb dL_law_759 hl (by decide) rfl (fun ls hl => ?_)
    refine lv_aload_n hx hb dL_law_761 rfl (lv_at hl 5 rfl) ?_
    refine k_Ri X (k_runV (As := []) (rest := []) Z X (c_X8_thrown l s G (gT S (xs (i + 2)) (xs (i + 3)) (xs (i + 4)) cap) (oTask (sI T 24 0 0) (xs (i + 2)) (xs (i + 3)) (xs (i + 4))) ((nI (S.2 0 3)).toInt64) ad1) (k_cwV 0 Z.1.2.2.2.2 (inU_9 _ (List.mem_of_getElem? (i := 7) rfl)) (inU_9 _ (List.mem_of_getElem? (i := 8) rfl)) (inU_9 _ (List.mem_of_getElem? (i := 9) rfl)) (inU_1 _ (List.mem_of_getElem? (i := 5) rfl)) (inU_9 _ (List.mem_of_getElem? (i := 10) rfl)) rfl rfl (by decide +kernel) ⟨Nat.le_of_ble_eq_true rfl, Nat.le_of_ble_eq_true rfl⟩) (k_recv Z X ct_16 rfl) rfl hl.1 rfl (Nat.le_of_ble_eq_true rfl) dL_law_762 ⟨r1, r2⟩) (fun r_762 ad2 ct2 H locs hp X => ?_)
    obtain ⟨rfl, ha_, hb_⟩ := hp
    rw [← ha_, hb_] at X
    refine lv_iload hx hb dL_law_765 (lv_at hl 1 rfl) ?_
    refine lv_icmp_eq (tgt := 772) hx hb dL_law_767 (by decide) (fun c_767 => ?_) (fun c_767 => ?_)
    · refine lv_iload hx hb dL_law_772 (lv_at hl 1 rfl) ?_
      refine lv_if_ne (tgt := 789) hx hb dL_law_774 (by decide) (fun c_774 => ?_) (fun c_774 => ?_)
      · exact absurd hC c_774
      · refine lv_aload_n hx hb dL_law_777 rfl (lv_at hl 6 rfl) ?_
        refine lv_iconst (v := 0) hx hb dL_law_778 (by decide) ?_
        refine k_lld (ad := ad1) (k := 18) (i := 0) Z X ct_18 (by unfold vp_in; decide) dL_law_779 ?_
        refine lv_iload hx hb dL_law_780 (lv_at hl 0 rfl) ?_
        refine lv_i2l (v := (nI (S.2 0 3)).toInt64) hx hb dL_law_782 rfl ?_
        refine W.lcmp hx hb dL_law_783 ?_
        refine lv_topi (fun x_783 e_783 => ?_)
        obtain rfl : x_783 = 0 := e_783.trans (lg_self _)
        refine lv_if_eq (tgt := 789) hx hb dL_law_784 (by decide) (fun c_784 => ?_) (fun c_784 => ?_)
        · refine lv_goto (tgt := 1522) hx hb dL_law_789 (by decide) ?_
          exact K _ _ _ _ _ _ _ hT1 X (lv_sub hl [2, 3, 4, 5, 6] rfl)
        · exact absurd c_784 (by decide)
    · exact absurd (h24.trans hC.symm) c_767
  · have hCe : cTask S (xs (i + 1)) (xs (i + 2)) (xs (i + 3)) (xs (i + 4)) = cTask T (xs (i + 1)) (xs (i + 2)) (xs (i + 3)) (xs (i + 4)) := cTask_e hEq (xs (i + 1)) (xs (i + 2)) (xs (i + 3)) (xs (i + 4))
    have hCT : ¬ cTask T (xs (i + 1)) (xs (i + 2)) (xs (i + 3)) (xs (i + 4)) = 0 := fun z => hC (hCe.trans z)
    refine lv_istore (lv' := [(5, .int (cTask S (xs (i + 1)) (xs (i + 2)) (xs (i + 3)) (xs (i + 4)))), (4, .int (nI i)), (0, .ref b), (1, .ref (ad1 0 0)), (2, .ref (ad1 16 0)), (3, .ref (ad1 18 0))]) hx hb dL_law_729 hl (by decide) rfl (fun ls hl => ?_)
    refine lv_aload_n hx hb dL_law_731 rfl (lv_at hl 4 rfl) ?_
    refine lv_aload_n hx hb dL_law_732 rfl (lv_at hl 2 rfl) ?_
    refine lv_iload hx hb dL_law_733 (lv_at hl 1 rfl) ?_
    refine lv_iconst (v := 1) hx hb dL_law_735 (by decide) ?_
    refine lv_iadd hx hb dL_law_736 ?_
    refine lv_topi (fun x_736 e_736 => ?_)
    obtain rfl : x_736 = nI (i + 1) := e_736.trans (nI_1 _)
    refine va_sld hx hb hX hbl (Nat.not_le.mpr hbl) X.2 (vp_in_nI (show i + 1 < L by omega) (by omega)) dL_law_737 ?_
    refine lv_topi (fun x_737 e_737 => ?_)
    obtain rfl : x_737 = xs (i + 1) := e_737.trans (by rw [nI_clamp (by omega)])
    refine lv_aload_n hx hb dL_law_738 rfl (lv_at hl 2 rfl) ?_
    refine lv_iload hx hb dL_law_739 (lv_at hl 1 rfl) ?_
    refine lv_iconst (v := 2) hx hb dL_law_741 (by decide) ?_
    refine lv_iadd hx hb dL_law_742 ?_
    refine lv_topi (fun x_742 e_742 => ?_)
    obtain rfl : x_742 = nI (i + 2) := e_742.trans (nI_add _ 2)
    refine va_sld hx hb hX hbl (Nat.not_le.mpr hbl) X.2 (vp_in_nI (show i + 2 < L by omega) (by omega)) dL_law_743 ?_
    refine lv_topi (fun x_743 e_743 => ?_)
    obtain rfl : x_743 = xs (i + 2) := e_743.trans (by rw [nI_clamp (by omega)])
    refine lv_aload_n hx hb dL_law_744 rfl (lv_at hl 2 rfl) ?_
    refine lv_iload hx hb dL_law_745 (lv_at hl 1 rfl) ?_
    refine lv_iconst (v := 3) hx hb dL_law_747 (by decide) ?_
    refine lv_iadd hx hb dL_law_748 ?_
    refine lv_topi (fun x_748 e_748 => ?_)
    obtain rfl : x_748 = nI (i + 3) := e_748.trans (nI_add _ 3)
    refine va_sld hx hb hX hbl (Nat.not_le.mpr hbl) X.2 (vp_in_nI (show i + 3 < L by omega) (by omega)) dL_law_749 ?_
    refine lv_topi (fun x_749 e_749 => ?_)
    obtain rfl : x_749 = xs (i + 3) := e_749.trans (by rw [nI_clamp (by omega)])
    refine lv_aload_n hx hb dL_law_750 rfl (lv_at hl 2 rfl) ?_
    refine lv_iload hx hb dL_law_751 (lv_at hl 1 rfl) ?_
    refine lv_iconst (v := 4) hx hb dL_law_753 (by decide) ?_
    refine lv_iadd hx hb dL_law_754 ?_
    refine lv_topi (fun x_754 e_754 => ?_)
    obtain rfl : x_754 = nI (i + 4) := e_754.trans (nI_add _ 4)
    refine va_sld hx hb hX hbl (Nat.not_le.mpr hbl) X.2 (vp_in_nI (show i + 4 < L by omega) (by omega)) dL_law_755 ?_
    refine lv_topi (fun x_755 e_755 => ?_)
    obtain rfl : x_755 = xs (i + 4) := e_755.trans (by rw [nI_clamp (by omega)])
    refine k_Ri X (k_runV (As := [.int (xs (i + 1)), .int (xs (i + 2)), .int (xs (i + 3)), .int (xs (i + 4))]) (rest := []) Z X (c_X8_task l s G S T o ad1 (xs (i + 1)) (xs (i + 2)) (xs (i + 3)) (xs (i + 4)) (okN_e hEq hS) ) (k_cwV 4 Z.1.2.2.2.2 (inU_29 _ (List.mem_of_getElem? (i := 7) rfl)) (inU_29 _ (List.mem_of_getElem? (i := 8) rfl)) (inU_29 _ (List.mem_of_getElem? (i := 9) rfl)) (inU_1 _ (List.mem_of_getElem? (i := 5) rfl)) (inU_29 _ (List.mem_of_getElem? (i := 10) rfl)) rfl rfl (by decide +kernel) ⟨Nat.le_of_ble_eq_true rfl, Nat.le_of_ble_eq_true rfl⟩) (k_recv Z X ct_16 rfl) rfl hl.1 rfl (Nat.le_of_ble_eq_true rfl) dL_law_756 ⟨r1, r2⟩) (fun r_756 ad2 ct2 H locs hp X => ?_)
    obtain ⟨hv, ha_, hb_⟩ := hp
    rw [if_neg hCT] at hb_
    rw [← ha_, hb_] at X
    refine lv_istore (lv' := [(6, .int r_756), (5, .int (cTask S (xs (i + 1)) (xs (i + 2)) (xs (i + 3)) (xs (i + 4)))), (4, .int (nI i)), (0, .ref b), (1, .ref (ad1 0 0)), (2, .ref (ad1 16 0)), (3, .ref (ad1 18 0))]) hx hb dL_law_759 hl (by decide) rfl (fun ls hl => ?_)
    refine lv_aload_n hx hb dL_law_761 rfl (lv_at hl 5 rfl) ?_
    refine k_Ri X (k_runV (As := []) (rest := []) Z X (c_X8_thrown l s G S (sI T 24 0 (cTask T (xs (i + 1)) (xs (i + 2)) (xs (i + 3)) (xs (i + 4)))) o ad1) (k_cwV 0 Z.1.2.2.2.2 (inU_9 _ (List.mem_of_getElem? (i := 7) rfl)) (inU_9 _ (List.mem_of_getElem? (i := 8) rfl)) (inU_9 _ (List.mem_of_getElem? (i := 9) rfl)) (inU_1 _ (List.mem_of_getElem? (i := 5) rfl)) (inU_9 _ (List.mem_of_getElem? (i := 10) rfl)) rfl rfl (by decide +kernel) ⟨Nat.le_of_ble_eq_true rfl, Nat.le_of_ble_eq_true rfl⟩) (k_recv Z X ct_16 rfl) rfl hl.1 rfl (Nat.le_of_ble_eq_true rfl) dL_law_762 ⟨r1, r2⟩) (fun r_762 ad2 ct2 H locs hp X => ?_)
    obtain ⟨rfl, ha_, hb_⟩ := hp
    rw [← ha_, hb_] at X
    refine lv_iload hx hb dL_law_765 (lv_at hl 1 rfl) ?_
    refine lv_icmp_eq (tgt := 772) hx hb dL_law_767 (by decide) (fun c_767 => ?_) (fun c_767 => ?_)
    · refine lv_iload hx hb dL_law_772 (lv_at hl 1 rfl) ?_
      refine lv_if_ne (tgt := 789) hx hb dL_law_774 (by decide) (fun c_774 => ?_) (fun c_774 => ?_)
      · refine lv_goto (tgt := 1522) hx hb dL_law_789 (by decide) ?_
        exact K _ _ _ _ _ _ _ ((hTie.t24 _).up (Nat.le_succ n)) X (lv_sub hl [2, 3, 4, 5, 6] rfl)
      · exact absurd c_774 hC
    · exact absurd (sI_s.trans hCe.symm) c_767
set_option maxHeartbeats 1000000 in
set_option maxRecDepth 100000 in
theorem a_done (hE : kE l s G) (Z : kZ p m c code 7 s #[Value.ref b] wsL_law RL s G) (hX : va_X b L xs s s.heap) (hbl : b < s.heap.size) (hTie : Tie n S T) (hn : n < 512) (X : kX s G s H locs ad (cto G S T o ad)) (hl : lv_has ls 7 (lwLv b i ad)) (hi : i + 5 ≤ L) (hL9 : L ≤ 2560) (r1 : cells + 20 ≤ room_1.cells) (r2 : slots + 400 ≤ room_1.slots) (K : lwK p l e s m below meth c G b i (n + 1) (cells + 20) (slots + 400) Q) : W p l e room_1 s m #[Value.ref b] below meth c H locs cells slots Q (F0 m 792 ls []) := by
  have hx := Z.1.1
  have hb := Z.1.2.1
  have hl : lv_has ls 7 [(4, .int (nI i)), (0, .ref b), (1, .ref (ad 0 0)), (2, .ref (ad 16 0)), (3, .ref (ad 18 0))] := hl
  obtain ⟨⟨hEq, hKd, hS, hLk, hM, hG9, hc9, hV, hB, hM22⟩, hSe⟩ := id hTie
  refine lv_aload_n hx hb dL_law_792 rfl (lv_at hl 2 rfl) ?_
  refine lv_aload_n hx hb dL_law_793 rfl (lv_at hl 1 rfl) ?_
  refine lv_iload hx hb dL_law_794 (lv_at hl 0 rfl) ?_
  refine lv_iconst (v := 1) hx hb dL_law_796 (by decide) ?_
  refine lv_iadd hx hb dL_law_797 ?_
  refine lv_topi (fun x_797 e_797 => ?_)
  obtain rfl : x_797 = nI (i + 1) := e_797.trans (nI_1 _)
  refine va_sld hx hb hX hbl (Nat.not_le.mpr hbl) X.2 (vp_in_nI (show i + 1 < L by omega) (by omega)) dL_law_798 ?_
  refine lv_topi (fun x_798 e_798 => ?_)
  obtain rfl : x_798 = xs (i + 1) := e_798.trans (by rw [nI_clamp (by omega)])
  refine lv_aload_n hx hb dL_law_799 rfl (lv_at hl 1 rfl) ?_
  refine lv_iload hx hb dL_law_800 (lv_at hl 0 rfl) ?_
  refine lv_iconst (v := 2) hx hb dL_law_802 (by decide) ?_
  refine lv_iadd hx hb dL_law_803 ?_
  refine lv_topi (fun x_803 e_803 => ?_)
  obtain rfl : x_803 = nI (i + 2) := e_803.trans (nI_add _ 2)
  refine va_sld hx hb hX hbl (Nat.not_le.mpr hbl) X.2 (vp_in_nI (show i + 2 < L by omega) (by omega)) dL_law_804 ?_
  refine lv_topi (fun x_804 e_804 => ?_)
  obtain rfl : x_804 = xs (i + 2) := e_804.trans (by rw [nI_clamp (by omega)])
  refine lv_aload_n hx hb dL_law_805 rfl (lv_at hl 4 rfl) ?_
  refine k_xRi X (k_xrunSW (As := [.ref (ad 0 0), .int (xs (i + 1)), .int (xs (i + 2)), .ref (ad 18 0)]) (rest := []) Z X (c_L_done l s G S T o ad (xs (i + 1)) (xs (i + 2)) hE hS hLk) (k_cwSW 4 Z.1.2.2.2.2 (inU_29 _ (List.mem_of_getElem? (i := 11) rfl)) (inU_29 _ (List.mem_of_getElem? (i := 12) rfl)) (inU_7 _ (List.mem_of_getElem? (i := 7) rfl)) (inU_29 _ (List.mem_of_getElem? (i := 13) rfl)) rfl rfl (by decide +kernel) ⟨(Nat.le_of_ble_eq_true rfl), (Nat.le_of_ble_eq_true rfl)⟩) rfl hl.1 rfl (Nat.le_of_ble_eq_true rfl) dL_law_806 ⟨r1, r2⟩) (fun _ _ _ _ _ _ _ hp => hp.elim) (fun r_806 ad1 ct1 H locs hp X => ?_)
  obtain ⟨rfl, hAK, hq⟩ := hp
  rw [← hAK.1, ← hAK.2.1, ← hAK.2.2] at hl
  rcases hq with ⟨hC, S1, hR1, rfl⟩ | ⟨hC, rfl⟩
  · have hCe : cDone S (xs (i + 1)) (xs (i + 2)) = cDone T (xs (i + 1)) (xs (i + 2)) := cDone_e hEq (xs (i + 1)) (xs (i + 2))
    have hR1 : S1 = oDone S (xs (i + 2)) := hR1
    rw [hR1] at X
    have hCT : cDone T (xs (i + 1)) (xs (i + 2)) = 0 := hCe.symm.trans hC
    obtain ⟨hT1, h24, hval⟩ := t_done hTie (xs (i + 2))
    refine lv_istore (lv' := [(5, .int (cDone S (xs (i + 1)) (xs (i + 2)))), (4, .int (nI i)), (0, .ref b), (1, .ref (ad1 0 0)), (2, .ref (ad1 16 0)), (3, .ref (ad1 18 0))]) hx hb dL_law_809 hl (by decide) rfl (fun ls hl => ?_)
    refine lv_aload_n hx hb dL_law_811 rfl (lv_at hl 4 rfl) ?_
    refine lv_aload_n hx hb dL_law_812 rfl (lv_at hl 2 rfl) ?_
    refine lv_iload hx hb dL_law_813 (lv_at hl 1 rfl) ?_
    refine lv_iconst (v := 1) hx hb dL_law_815 (by decide) ?_
    refine lv_iadd hx hb dL_law_816 ?_
    refine lv_topi (fun x_816 e_816 => ?_)
    obtain rfl : x_816 = nI (i + 1) := e_816.trans (nI_1 _)
    refine va_sld hx hb hX hbl (Nat.not_le.mpr hbl) X.2 (vp_in_nI (show i + 1 < L by omega) (by omega)) dL_law_817 ?_
    refine lv_topi (fun x_817 e_817 => ?_)
    obtain rfl : x_817 = xs (i + 1) := e_817.trans (by rw [nI_clamp (by omega)])
    refine lv_aload_n hx hb dL_law_818 rfl (lv_at hl 2 rfl) ?_
    refine lv_iload hx hb dL_law_819 (lv_at hl 1 rfl) ?_
    refine lv_iconst (v := 2) hx hb dL_law_821 (by decide) ?_
    refine lv_iadd hx hb dL_law_822 ?_
    refine lv_topi (fun x_822 e_822 => ?_)
    obtain rfl : x_822 = nI (i + 2) := e_822.trans (nI_add _ 2)
    refine va_sld hx hb hX hbl (Nat.not_le.mpr hbl) X.2 (vp_in_nI (show i + 2 < L by omega) (by omega)) dL_law_823 ?_
    refine lv_topi (fun x_823 e_823 => ?_)
    obtain rfl : x_823 = xs (i + 2) := e_823.trans (by rw [nI_clamp (by omega)])
    refine k_Ri X (k_runV (As := [.int (xs (i + 1)), .int (xs (i + 2))]) (rest := []) Z X (c_X8_done l s G (oDone S (xs (i + 2))) T ((S.1 13 (cl (xs (i + 2))) - S.1 0 0).toInt64) ad1 (xs (i + 1)) (xs (i + 2)) (okN_e hEq hS) ) (k_cwV 2 Z.1.2.2.2.2 (inU_30 _ (List.mem_of_getElem? (i := 0) rfl)) (inU_30 _ (List.mem_of_getElem? (i := 1) rfl)) (inU_30 _ (List.mem_of_getElem? (i := 2) rfl)) (inU_1 _ (List.mem_of_getElem? (i := 5) rfl)) (inU_30 _ (List.mem_of_getElem? (i := 3) rfl)) rfl rfl (by decide +kernel) ⟨Nat.le_of_ble_eq_true rfl, Nat.le_of_ble_eq_true rfl⟩) (k_recv Z X ct_16 rfl) rfl hl.1 rfl (Nat.le_of_ble_eq_true rfl) dL_law_824 ⟨r1, r2⟩) (fun r_824 ad2 ct2 H locs hp X => ?_)
    obtain ⟨hv, ha_, hb_⟩ := hp
    rw [if_pos hCT] at hb_
    rw [← ha_, hb_] at X
    have hv2 : r_824 = S.1 13 (cl (xs (i + 2))) - S.1 0 0 := (hv hCT).trans hval.symm
    subst hv2
    refine lv_istore (lv' := [(6, .int (S.1 13 (cl (xs (i + 2))) - S.1 0 0)), (5, .int (cDone S (xs (i + 1)) (xs (i + 2)))), (4, .int (nI i)), (0, .ref b), (1, .ref (ad1 0 0)), (2, .ref (ad1 16 0)), (3, .ref (ad1 18 0))]) hx hb dL_law_827 hl (by decide) rfl (fun ls hl => ?_)
    refine lv_aload_n hx hb dL_law_829 rfl (lv_at hl 5 rfl) ?_
    refine k_Ri X (k_runV (As := []) (rest := []) Z X (c_X8_thrown l s G (oDone S (xs (i + 2))) (oDone (sI T 24 0 0) (xs (i + 2))) ((S.1 13 (cl (xs (i + 2))) - S.1 0 0).toInt64) ad1) (k_cwV 0 Z.1.2.2.2.2 (inU_9 _ (List.mem_of_getElem? (i := 7) rfl)) (inU_9 _ (List.mem_of_getElem? (i := 8) rfl)) (inU_9 _ (List.mem_of_getElem? (i := 9) rfl)) (inU_1 _ (List.mem_of_getElem? (i := 5) rfl)) (inU_9 _ (List.mem_of_getElem? (i := 10) rfl)) rfl rfl (by decide +kernel) ⟨Nat.le_of_ble_eq_true rfl, Nat.le_of_ble_eq_true rfl⟩) (k_recv Z X ct_16 rfl) rfl hl.1 rfl (Nat.le_of_ble_eq_true rfl) dL_law_830 ⟨r1, r2⟩) (fun r_830 ad2 ct2 H locs hp X => ?_)
    obtain ⟨rfl, ha_, hb_⟩ := hp
    rw [← ha_, hb_] at X
    refine lv_iload hx hb dL_law_833 (lv_at hl 1 rfl) ?_
    refine lv_icmp_eq (tgt := 840) hx hb dL_law_835 (by decide) (fun c_835 => ?_) (fun c_835 => ?_)
    · refine lv_iload hx hb dL_law_840 (lv_at hl 1 rfl) ?_
      refine lv_if_ne (tgt := 857) hx hb dL_law_842 (by decide) (fun c_842 => ?_) (fun c_842 => ?_)
      · exact absurd hC c_842
      · refine lv_aload_n hx hb dL_law_845 rfl (lv_at hl 6 rfl) ?_
        refine lv_iconst (v := 0) hx hb dL_law_846 (by decide) ?_
        refine k_lld (ad := ad1) (k := 18) (i := 0) Z X ct_18 (by unfold vp_in; decide) dL_law_847 ?_
        refine lv_iload hx hb dL_law_848 (lv_at hl 0 rfl) ?_
        refine lv_i2l (v := (S.1 13 (cl (xs (i + 2))) - S.1 0 0).toInt64) hx hb dL_law_850 rfl ?_
        refine W.lcmp hx hb dL_law_851 ?_
        refine lv_topi (fun x_851 e_851 => ?_)
        obtain rfl : x_851 = 0 := e_851.trans (lg_self _)
        refine lv_if_eq (tgt := 857) hx hb dL_law_852 (by decide) (fun c_852 => ?_) (fun c_852 => ?_)
        · refine lv_goto (tgt := 1522) hx hb dL_law_857 (by decide) ?_
          exact K _ _ _ _ _ _ _ hT1 X (lv_sub hl [2, 3, 4, 5, 6] rfl)
        · exact absurd c_852 (by decide)
    · exact absurd (h24.trans hC.symm) c_835
  · have hCe : cDone S (xs (i + 1)) (xs (i + 2)) = cDone T (xs (i + 1)) (xs (i + 2)) := cDone_e hEq (xs (i + 1)) (xs (i + 2))
    have hCT : ¬ cDone T (xs (i + 1)) (xs (i + 2)) = 0 := fun z => hC (hCe.trans z)
    refine lv_istore (lv' := [(5, .int (cDone S (xs (i + 1)) (xs (i + 2)))), (4, .int (nI i)), (0, .ref b), (1, .ref (ad1 0 0)), (2, .ref (ad1 16 0)), (3, .ref (ad1 18 0))]) hx hb dL_law_809 hl (by decide) rfl (fun ls hl => ?_)
    refine lv_aload_n hx hb dL_law_811 rfl (lv_at hl 4 rfl) ?_
    refine lv_aload_n hx hb dL_law_812 rfl (lv_at hl 2 rfl) ?_
    refine lv_iload hx hb dL_law_813 (lv_at hl 1 rfl) ?_
    refine lv_iconst (v := 1) hx hb dL_law_815 (by decide) ?_
    refine lv_iadd hx hb dL_law_816 ?_
    refine lv_topi (fun x_816 e_816 => ?_)
    obtain rfl : x_816 = nI (i + 1) := e_816.trans (nI_1 _)
    refine va_sld hx hb hX hbl (Nat.not_le.mpr hbl) X.2 (vp_in_nI (show i + 1 < L by omega) (by omega)) dL_law_817 ?_
    refine lv_topi (fun x_817 e_817 => ?_)
    obtain rfl : x_817 = xs (i + 1) := e_817.trans (by rw [nI_clamp (by omega)])
    refine lv_aload_n hx hb dL_law_818 rfl (lv_at hl 2 rfl) ?_
    refine lv_iload hx hb dL_law_819 (lv_at hl 1 rfl) ?_
    refine lv_iconst (v := 2) hx hb dL_law_821 (by decide) ?_
    refine lv_iadd hx hb dL_law_822 ?_
    refine lv_topi (fun x_822 e_822 => ?_)
    obtain rfl : x_822 = nI (i + 2) := e_822.trans (nI_add _ 2)
    refine va_sld hx hb hX hbl (Nat.not_le.mpr hbl) X.2 (vp_in_nI (show i + 2 < L by omega) (by omega)) dL_law_823 ?_
    refine lv_topi (fun x_823 e_823 => ?_)
    obtain rfl : x_823 = xs (i + 2) := e_823.trans (by rw [nI_clamp (by omega)])
    refine k_Ri X (k_runV (As := [.int (xs (i + 1)), .int (xs (i + 2))]) (rest := []) Z X (c_X8_done l s G S T o ad1 (xs (i + 1)) (xs (i + 2)) (okN_e hEq hS) ) (k_cwV 2 Z.1.2.2.2.2 (inU_30 _ (List.mem_of_getElem? (i := 0) rfl)) (inU_30 _ (List.mem_of_getElem? (i := 1) rfl)) (inU_30 _ (List.mem_of_getElem? (i := 2) rfl)) (inU_1 _ (List.mem_of_getElem? (i := 5) rfl)) (inU_30 _ (List.mem_of_getElem? (i := 3) rfl)) rfl rfl (by decide +kernel) ⟨Nat.le_of_ble_eq_true rfl, Nat.le_of_ble_eq_true rfl⟩) (k_recv Z X ct_16 rfl) rfl hl.1 rfl (Nat.le_of_ble_eq_true rfl) dL_law_824 ⟨r1, r2⟩) (fun r_824 ad2 ct2 H locs hp X => ?_)
    obtain ⟨hv, ha_, hb_⟩ := hp
    rw [if_neg hCT] at hb_
    rw [← ha_, hb_] at X
    refine lv_istore (lv' := [(6, .int r_824), (5, .int (cDone S (xs (i + 1)) (xs (i + 2)))), (4, .int (nI i)), (0, .ref b), (1, .ref (ad1 0 0)), (2, .ref (ad1 16 0)), (3, .ref (ad1 18 0))]) hx hb dL_law_827 hl (by decide) rfl (fun ls hl => ?_)
    refine lv_aload_n hx hb dL_law_829 rfl (lv_at hl 5 rfl) ?_
    refine k_Ri X (k_runV (As := []) (rest := []) Z X (c_X8_thrown l s G S (sI T 24 0 (cDone T (xs (i + 1)) (xs (i + 2)))) o ad1) (k_cwV 0 Z.1.2.2.2.2 (inU_9 _ (List.mem_of_getElem? (i := 7) rfl)) (inU_9 _ (List.mem_of_getElem? (i := 8) rfl)) (inU_9 _ (List.mem_of_getElem? (i := 9) rfl)) (inU_1 _ (List.mem_of_getElem? (i := 5) rfl)) (inU_9 _ (List.mem_of_getElem? (i := 10) rfl)) rfl rfl (by decide +kernel) ⟨Nat.le_of_ble_eq_true rfl, Nat.le_of_ble_eq_true rfl⟩) (k_recv Z X ct_16 rfl) rfl hl.1 rfl (Nat.le_of_ble_eq_true rfl) dL_law_830 ⟨r1, r2⟩) (fun r_830 ad2 ct2 H locs hp X => ?_)
    obtain ⟨rfl, ha_, hb_⟩ := hp
    rw [← ha_, hb_] at X
    refine lv_iload hx hb dL_law_833 (lv_at hl 1 rfl) ?_
    refine lv_icmp_eq (tgt := 840) hx hb dL_law_835 (by decide) (fun c_835 => ?_) (fun c_835 => ?_)
    · refine lv_iload hx hb dL_law_840 (lv_at hl 1 rfl) ?_
      refine lv_if_ne (tgt := 857) hx hb dL_law_842 (by decide) (fun c_842 => ?_) (fun c_842 => ?_)
      · refine lv_goto (tgt := 1522) hx hb dL_law_857 (by decide) ?_
        exact K _ _ _ _ _ _ _ ((hTie.t24 _).up (Nat.le_succ n)) X (lv_sub hl [2, 3, 4, 5, 6] rfl)
      · exact absurd c_842 hC
    · exact absurd (sI_s.trans hCe.symm) c_835
end ARM
