/-! THE LAW: users, roles, ends -/
set_option maxHeartbeats 4000000 in
set_option maxRecDepth 100000 in
theorem a_user {p : Program} {l : Launch} {e : Env} {s : State} {m : MethodId} {below : List Frame} {meth : Method} {c : Code} {E : State} {G : kG} {o : Int64} {Q : State → Prop} {b i : Nat} {S T : kSt} {ad : kAd} {x1 x2 wq uq : Nat} (hE : kE l E G) (Z : kZ p m c code 24 s #[Value.ref b] wsL_law RL E G) (hi : i < 64) (hx1 : x1 < 60000) (hx2 : x2 < 60000) (hwq : wq < 32) (hI : Iv i S T) (huq : uq ≤ S.2 0 0) (K : lwF p l e s m below meth c E G b i x1 o Q) : ∀ (H : Heap) (locs : List Loc) (ls : Array Slot), kX E G s H locs ad (cto G S T o ad) → lv_has ls 24 [(0, .ref b), (1, .ref (ad 0 0)), (2, .ref (ad 17 0)), (3, .ref (ad 17 1)), (4, .ref (ad 17 2)), (5, .ref (ad 17 3)), (6, .ref (ad 17 4)), (7, .ref (ad 17 5)), (8, .ref (ad 17 6)), (9, .ref (ad 17 7)), (10, .ref (ad 17 8)), (11, .ref (ad 17 9)), (12, .ref (ad 17 10)), (13, .int 1), (14, .int (nI i)), (15, .int (nI wq)), (16, .int (nI x1)), (17, .int (nI x2)), (18, .int (nI uq)), (19, .int (bI (decide (uq < S.2 0 0))))] → W p l e room_1 s m #[Value.ref b] below meth c H locs (1100 * i + 200) (8000 * i + 9000) Q (F0 m 317 ls []) := by
  intro H locs ls X hl
  have hx := Z.1.1
  have hb := Z.1.2.1
  have hT := hI.lt
  obtain ⟨hS, hL, hK9, hLg, hRp, hlog9, hB⟩ := hI.1.ok
  have hN := hS
  have hlog : S.2 0 4 < 512 := by omega
  obtain ⟨hc0, hc1, hc2, hc3⟩ := hT.c
  obtain ⟨rq, erq⟩ : ∃ y, y = rqU i x1 := ⟨_, rfl⟩
  have hrq : rq < 4 := by rw [erq]; exact rqU_lt i x1
  have M_345 : ∀ (H : Heap) (locs : List Loc), kX E G s H locs ad (cto G S T o ad) → W p l e room_1 s m #[Value.ref b] below meth c H locs (1100 * i + 200) (8000 * i + 9000) Q (F0 m 345 ls [.int (nI rq)]) := by
    intro H locs X
    refine lv_istore (lv' := [(20, .int (nI rq)), (0, .ref b), (1, .ref (ad 0 0)), (2, .ref (ad 17 0)), (3, .ref (ad 17 1)), (4, .ref (ad 17 2)), (5, .ref (ad 17 3)), (6, .ref (ad 17 4)), (7, .ref (ad 17 5)), (8, .ref (ad 17 6)), (9, .ref (ad 17 7)), (10, .ref (ad 17 8)), (11, .ref (ad 17 9)), (12, .ref (ad 17 10)), (13, .int 1), (14, .int (nI i)), (15, .int (nI wq)), (16, .int (nI x1)), (17, .int (nI x2)), (18, .int (nI uq)), (19, .int (bI (decide (uq < S.2 0 0))))]) hx hb dL_law_345 hl (by decide) rfl (fun ls hl => ?_)
    have M_361 : ∀ (H : Heap) (locs : List Loc), kX E G s H locs ad (cto G S T o ad) → W p l e room_1 s m #[Value.ref b] below meth c H locs (1100 * i + 200) (8000 * i + 9000) Q (F0 m 361 ls [.int (bI (decide (S.2 0 0 < 8)))]) := by
      intro H locs X
      refine lv_istore (lv' := [(21, .int (bI (decide (S.2 0 0 < 8)))), (20, .int (nI rq)), (0, .ref b), (1, .ref (ad 0 0)), (2, .ref (ad 17 0)), (3, .ref (ad 17 1)), (4, .ref (ad 17 2)), (5, .ref (ad 17 3)), (6, .ref (ad 17 4)), (7, .ref (ad 17 5)), (8, .ref (ad 17 6)), (9, .ref (ad 17 7)), (10, .ref (ad 17 8)), (11, .ref (ad 17 9)), (12, .ref (ad 17 10)), (13, .int 1), (14, .int (nI i)), (15, .int (nI wq)), (16, .int (nI x1)), (17, .int (nI x2)), (18, .int (nI uq)), (19, .int (bI (decide (uq < S.2 0 0))))]) hx hb dL_law_361 hl (by decide) rfl (fun ls hl => ?_)
      refine lv_iload hx hb dL_law_363 (lv_at hl 0 rfl) ?_
      refine lv_if_eq (tgt := 420) hx hb dL_law_365 (by decide) (fun c_365 => ?_) (fun c_365 => ?_)
      · have c_365 : (decide (S.2 0 0 < 8)) = false := bI_0 c_365
        refine lv_goto (tgt := 1231) hx hb dL_law_420 (by decide) ?_
        refine W.widen (k := 1100 * i + 240) (n := 8000 * i + 10000) (by omega) (by omega) ?_
        exact K _ _ _ _ _ _ (hI.mid (by omega)) X (lv_sub hl [2, 3, 4, 5, 6, 7, 8, 9, 10, 11, 12, 13, 14, 15, 16, 18] rfl)
      · have c_365 : (decide (S.2 0 0 < 8)) = true := bI_1 c_365
        have h8 := of_decide_eq_true c_365
        refine lv_aload_n hx hb dL_law_368 rfl (lv_at hl 4 rfl) ?_
        refine lv_aload hx hb dL_law_369 (lv_at hl 14 rfl) ?_
        refine lv_iconst (v := 1) hx hb dL_law_371 (by decide) ?_
        refine k_ild (ad := ad) (k := 17) (i := 10) Z X ct_17_10 (vp_in_nI (n := 1) (by first | assumption | omega) (by decide)) dL_law_372 ?_
        refine lv_topi (fun x_372 e_372 => ?_)
        obtain rfl : x_372 = T.1 11 1 := e_372.trans (by first | (simp only [nI_clamp (show 1 < 2 ^ 31 by omega)]; done) | rfl | (simp only [nI_clamp (show 1 < 2 ^ 31 by omega)]; rfl) | (simp only [nI_clamp (show 1 < 2 ^ 31 by omega)]; simp [sI, sN]; done))
        refine lv_topi (fun x_372 e_372 => ?_)
        obtain rfl : x_372 = nI (S.2 0 0) := e_372.trans (hT.g1)
        refine lv_iload hx hb dL_law_373 (lv_at hl 1 rfl) ?_
        refine k_ist (ad := ad) (k := 17) (i := 0) Z X ct_17_0 (vp_in_nI (n := (S.2 0 0)) (by first | assumption | omega) (by decide)) dL_law_375 (fun H locs X => ?_)
        have X : kX E G s H locs ad (cto G S (sI T 1 (S.2 0 0) (nI rq)) o ad) := X.eq (st_17 (a := 0) (by decide) (S.2 0 0) _ (by omega))
        refine lv_aload_n hx hb dL_law_376 rfl (lv_at hl 4 rfl) ?_
        refine lv_bipush (v := 8) hx hb dL_law_377 (by decide) ?_
        refine lv_aload hx hb dL_law_379 (lv_at hl 14 rfl) ?_
        refine lv_iconst (v := 1) hx hb dL_law_381 (by decide) ?_
        refine k_ild (ad := ad) (k := 17) (i := 10) Z X ct_17_10 (vp_in_nI (n := 1) (by first | assumption | omega) (by decide)) dL_law_382 ?_
        refine lv_topi (fun x_382 e_382 => ?_)
        obtain rfl : x_382 = T.1 11 1 := e_382.trans (by first | (simp only [nI_clamp (show 1 < 2 ^ 31 by omega)]; done) | rfl | (simp only [nI_clamp (show 1 < 2 ^ 31 by omega)]; rfl) | (simp only [nI_clamp (show 1 < 2 ^ 31 by omega)]; simp [sI, sN]; done))
        refine lv_topi (fun x_382 e_382 => ?_)
        obtain rfl : x_382 = nI (S.2 0 0) := e_382.trans (hT.g1)
        refine lv_iadd hx hb dL_law_383 ?_
        refine lv_topi (fun x_383 e_383 => ?_)
        obtain rfl : x_383 = nI (8 + (S.2 0 0)) := e_383.trans (nI_add 8 (S.2 0 0))
        refine lv_iconst (v := (-1)) hx hb dL_law_384 (by decide) ?_
        refine k_ist (ad := ad) (k := 17) (i := 0) Z X ct_17_0 (vp_in_nI (n := (8 + (S.2 0 0))) (by first | assumption | omega) (by decide)) dL_law_385 (fun H locs X => ?_)
        have X : kX E G s H locs ad (cto G S (sI (sI T 1 (S.2 0 0) (nI rq)) 1 (8 + (S.2 0 0)) (-1)) o ad) := X.eq (st_17 (a := 0) (by decide) (8 + (S.2 0 0)) _ (by omega))
        refine lv_aload hx hb dL_law_386 (lv_at hl 14 rfl) ?_
        refine lv_iconst (v := 1) hx hb dL_law_388 (by decide) ?_
        refine lv_dup2_11 hx hb dL_law_389 rfl rfl ?_
        refine k_ild (ad := ad) (k := 17) (i := 10) Z X ct_17_10 (vp_in_nI (n := 1) (by first | assumption | omega) (by decide)) dL_law_390 ?_
        refine lv_topi (fun x_390 e_390 => ?_)
        obtain rfl : x_390 = T.1 11 1 := e_390.trans (by first | (simp only [nI_clamp (show 1 < 2 ^ 31 by omega)]; done) | rfl | (simp only [nI_clamp (show 1 < 2 ^ 31 by omega)]; rfl) | (simp only [nI_clamp (show 1 < 2 ^ 31 by omega)]; simp [sI, sN]; done))
        refine lv_topi (fun x_390 e_390 => ?_)
        obtain rfl : x_390 = nI (S.2 0 0) := e_390.trans (hT.g1)
        refine lv_iconst (v := 1) hx hb dL_law_391 (by decide) ?_
        refine lv_iadd hx hb dL_law_392 ?_
        refine lv_topi (fun x_392 e_392 => ?_)
        obtain rfl : x_392 = nI ((S.2 0 0) + 1) := e_392.trans (nI_add (S.2 0 0) 1)
        refine k_ist (ad := ad) (k := 17) (i := 10) Z X ct_17_10 (vp_in_nI (n := 1) (by first | assumption | omega) (by decide)) dL_law_393 (fun H locs X => ?_)
        have X : kX E G s H locs ad (cto G S (sI (sI (sI T 1 (S.2 0 0) (nI rq)) 1 (8 + (S.2 0 0)) (-1)) 11 1 (nI ((S.2 0 0) + 1))) o ad) := X.eq (st_17 (a := 10) (by decide) 1 _ (by omega))
        refine lv_aload_n hx hb dL_law_394 rfl (lv_at hl 3 rfl) ?_
        refine lv_iconst (v := 0) hx hb dL_law_395 (by decide) ?_
        refine lv_iload hx hb dL_law_396 (lv_at hl 1 rfl) ?_
        refine lv_iconst (v := 0) hx hb dL_law_398 (by decide) ?_
        refine lv_iconst (v := 0) hx hb dL_law_399 (by decide) ?_
        refine lv_iconst (v := 0) hx hb dL_law_400 (by decide) ?_
        refine k_xRi X (k_xrunSW (As := [.ref (ad 0 0), .int 0, .int (nI rq), .int 0, .int 0, .int 0]) (rest := []) Z X (c_L_does_0 l E G S (sI (sI (sI T 1 (S.2 0 0) (nI rq)) 1 (8 + (S.2 0 0)) (-1)) 11 1 (nI ((S.2 0 0) + 1))) o ad (nI rq) 0 0 0 hE hS hL) (k_cwSW 6 Z.1.2.2.2.2 (inU_6 _ (List.mem_of_getElem? (i := 3) rfl)) (inU_6 _ (List.mem_of_getElem? (i := 4) rfl)) (inU_6 _ (List.mem_of_getElem? (i := 5) rfl)) (inU_6 _ (List.mem_of_getElem? (i := 6) rfl)) rfl rfl (by decide +kernel) ⟨(Nat.le_of_ble_eq_true rfl), (Nat.le_of_ble_eq_true rfl)⟩) rfl hl.1 rfl (Nat.le_of_ble_eq_true rfl) dL_law_401 ⟨(by first | exact rm_c (by omega) | exact rm_s (by omega)), (by first | exact rm_c (by omega) | exact rm_s (by omega))⟩) (fun _ _ _ _ _ _ _ hp => hp.elim) (fun r_401 ad1 ct1 H locs hp X => ?_)
        have hC : cUser S (nI rq) = 0 := cUser_v hrq h8
        obtain ⟨hAK, hq⟩ := hp
        rcases hq with ⟨z, hr_, S1, hS1, hb_⟩ | ⟨z, -⟩ | ⟨z, -⟩ | ⟨z, -⟩
        case inr.inl => exact absurd (hC.symm.trans z) (by decide)
        case inr.inr.inl => exact absurd (hC.symm.trans z) (by decide)
        case inr.inr.inr => exact absurd (hC.symm.trans z) (by decide)
        subst hr_
        obtain ⟨cap, hcap, rfl⟩ := hS1
        rw [hb_] at X
        rw [← hAK.1] at hl
        rw [← hAK.2.2 0] at hl
        rw [← hAK.2.2 1] at hl
        rw [← hAK.2.2 2] at hl
        rw [← hAK.2.2 3] at hl
        rw [← hAK.2.2 4] at hl
        rw [← hAK.2.2 5] at hl
        rw [← hAK.2.2 6] at hl
        rw [← hAK.2.2 7] at hl
        rw [← hAK.2.2 8] at hl
        rw [← hAK.2.2 9] at hl
        rw [← hAK.2.2 10] at hl
        refine lv_aload hx hb dL_law_404 (lv_at hl 14 rfl) ?_
        refine lv_iconst (v := 1) hx hb dL_law_406 (by decide) ?_
        refine k_ild (ad := ad1) (k := 17) (i := 10) Z X ct_17_10 (vp_in_nI (n := 1) (by first | assumption | omega) (by decide)) dL_law_407 ?_
        refine lv_topi (fun x_407 e_407 => ?_)
        obtain rfl : x_407 = nI ((S.2 0 0) + 1) := e_407.trans (by first | (simp only [nI_clamp (show 1 < 2 ^ 31 by omega)]; done) | rfl | (simp only [nI_clamp (show 1 < 2 ^ 31 by omega)]; rfl) | (simp only [nI_clamp (show 1 < 2 ^ 31 by omega)]; simp [sI, sN]; done))
        refine lv_iconst (v := 1) hx hb dL_law_408 (by decide) ?_
        refine lv_isub hx hb dL_law_409 ?_
        refine lv_topi (fun x_409 e_409 => ?_)
        obtain rfl : x_409 = nI (S.2 0 0) := e_409.trans (nI_pred _)
        refine lv_icmp_ne (tgt := 417) hx hb dL_law_410 (by decide) (fun c_410 => ?_) (fun c_410 => ?_)
        · exact absurd rfl c_410
        · refine lv_iconst (v := 1) hx hb dL_law_413 (by decide) ?_
          refine lv_goto (tgt := 418) hx hb dL_law_414 (by decide) ?_
          refine lv_istore (lv' := [(13, .int 1), (21, .int (bI (decide (S.2 0 0 < 8)))), (20, .int (nI rq)), (0, .ref b), (1, .ref (ad1 0 0)), (2, .ref (ad1 17 0)), (3, .ref (ad1 17 1)), (4, .ref (ad1 17 2)), (5, .ref (ad1 17 3)), (6, .ref (ad1 17 4)), (7, .ref (ad1 17 5)), (8, .ref (ad1 17 6)), (9, .ref (ad1 17 7)), (10, .ref (ad1 17 8)), (11, .ref (ad1 17 9)), (12, .ref (ad1 17 10)), (14, .int (nI i)), (15, .int (nI wq)), (16, .int (nI x1)), (17, .int (nI x2)), (18, .int (nI uq)), (19, .int (bI (decide (uq < S.2 0 0))))]) hx hb dL_law_418 hl (by decide) rfl (fun ls hl => ?_)
          refine lv_goto (tgt := 1231) hx hb dL_law_420 (by decide) ?_
          refine W.widen (k := 1100 * i + 240) (n := 8000 * i + 10000) (by omega) (by omega) ?_
          exact K _ _ _ _ _ _ (Mid.user hI hrq h8 hcap) X (lv_sub hl [3, 4, 5, 6, 7, 8, 9, 10, 11, 12, 13, 14, 15, 0, 16, 18] rfl)
    refine lv_aload hx hb dL_law_347 (lv_at hl 13 rfl) ?_
    refine lv_iconst (v := 1) hx hb dL_law_349 (by decide) ?_
    refine k_ild (ad := ad) (k := 17) (i := 10) Z X ct_17_10 (vp_in_nI (n := 1) (by first | assumption | omega) (by decide)) dL_law_350 ?_
    refine lv_topi (fun x_350 e_350 => ?_)
    obtain rfl : x_350 = T.1 11 1 := e_350.trans (by first | (simp only [nI_clamp (show 1 < 2 ^ 31 by omega)]; done) | rfl | (simp only [nI_clamp (show 1 < 2 ^ 31 by omega)]; rfl) | (simp only [nI_clamp (show 1 < 2 ^ 31 by omega)]; simp [sI, sN]; done))
    refine lv_topi (fun x_350 e_350 => ?_)
    obtain rfl : x_350 = nI (S.2 0 0) := e_350.trans (hT.g1)
    refine lv_bipush (v := 8) hx hb dL_law_351 (by decide) ?_
    refine lv_icmp_ge (tgt := 360) hx hb dL_law_353 (by decide) (fun c_353 => ?_) (fun c_353 => ?_)
    · have c_353 : 8 ≤ S.2 0 0 := (nI_leI (a := 8) (b := S.2 0 0) (by omega) (by omega)).mp c_353
      refine lv_iconst (v := 0) hx hb dL_law_360 (by decide) ?_
      exact W.eq (congrArg (fun z => F0 m 361 ls (.int z :: [])) (bI_f (decide_eq_false (by omega)))) (M_361 _ _ X)
    · have c_353 : ¬ 8 ≤ S.2 0 0 := fun h => c_353 ((nI_leI (a := 8) (b := S.2 0 0) (by omega) (by omega)).mpr h)
      refine lv_iconst (v := 1) hx hb dL_law_356 (by decide) ?_
      refine lv_goto (tgt := 361) hx hb dL_law_357 (by decide) ?_
      exact W.eq (congrArg (fun z => F0 m 361 ls (.int z :: [])) (bI_t (decide_eq_true (by omega)))) (M_361 _ _ X)
  refine lv_iload hx hb dL_law_317 (lv_at hl 14 rfl) ?_
  refine lv_iconst (v := 5) hx hb dL_law_319 (by decide) ?_
  refine lv_icmp_ge (tgt := 341) hx hb dL_law_320 (by decide) (fun c_320 => ?_) (fun c_320 => ?_)
  · have c_320 : 5 ≤ i := (nI_leI (a := 5) (b := i) (by omega) (by omega)).mp c_320
    refine lv_iload hx hb dL_law_341 (lv_at hl 16 rfl) ?_
    refine lv_iconst (v := 4) hx hb dL_law_343 (by decide) ?_
    refine lv_irem hx hb dL_law_344 (by decide) ?_
    refine lv_topi (fun x_344 e_344 => ?_)
    obtain rfl : x_344 = nI (x1 % 4) := e_344.trans ((pk_rem (a := x1) (d := 4) (by omega) (by omega) (by omega)))
    exact W.eq (congrArg (fun z => F0 m 345 ls (.int z :: [])) ((by rw [erq]; unfold rqU; (first | rw [if_pos (show i < 5 by omega), if_pos (show i % 4 = 0 by omega)] | rw [if_pos (show i < 5 by omega), if_neg (show ¬ i % 4 = 0 by omega)] | rw [if_neg (show ¬ i < 5 by omega)]) <;> first | rfl | exact m1_s _ | exact (m1_s _).symm | decide))) (M_345 _ _ X)
  · have c_320 : ¬ 5 ≤ i := fun h => c_320 ((nI_leI (a := 5) (b := i) (by omega) (by omega)).mpr h)
    refine lv_iload hx hb dL_law_323 (lv_at hl 14 rfl) ?_
    refine lv_iconst (v := 4) hx hb dL_law_325 (by decide) ?_
    refine lv_irem hx hb dL_law_326 (by decide) ?_
    refine lv_topi (fun x_326 e_326 => ?_)
    obtain rfl : x_326 = nI (i % 4) := e_326.trans ((pk_rem (a := i) (d := 4) (by omega) (by omega) (by omega)))
    refine lv_if_ne (tgt := 334) hx hb dL_law_327 (by decide) (fun c_327 => ?_) (fun c_327 => ?_)
    · have c_327 : ¬ i % 4 = 0 := fun h => c_327 ((nI_eq (a := i % 4) (b := 0) (by omega) (by omega)).mpr h)
      refine lv_iload hx hb dL_law_334 (lv_at hl 16 rfl) ?_
      refine lv_iconst (v := 4) hx hb dL_law_336 (by decide) ?_
      refine lv_irem hx hb dL_law_337 (by decide) ?_
      refine lv_topi (fun x_337 e_337 => ?_)
      obtain rfl : x_337 = nI (x1 % 4) := e_337.trans ((pk_rem (a := x1) (d := 4) (by omega) (by omega) (by omega)))
      refine lv_goto (tgt := 345) hx hb dL_law_338 (by decide) ?_
      exact W.eq (congrArg (fun z => F0 m 345 ls (.int z :: [])) ((by rw [erq]; unfold rqU; (first | rw [if_pos (show i < 5 by omega), if_pos (show i % 4 = 0 by omega)] | rw [if_pos (show i < 5 by omega), if_neg (show ¬ i % 4 = 0 by omega)] | rw [if_neg (show ¬ i < 5 by omega)]) <;> first | rfl | exact m1_s _ | exact (m1_s _).symm | decide))) (M_345 _ _ X)
    · have c_327 : i % 4 = 0 := (nI_eq (a := i % 4) (b := 0) (by omega) (by omega)).mp c_327
      refine lv_iconst (v := 3) hx hb dL_law_330 (by decide) ?_
      refine lv_goto (tgt := 345) hx hb dL_law_331 (by decide) ?_
      exact W.eq (congrArg (fun z => F0 m 345 ls (.int z :: [])) ((by rw [erq]; unfold rqU; (first | rw [if_pos (show i < 5 by omega), if_pos (show i % 4 = 0 by omega)] | rw [if_pos (show i < 5 by omega), if_neg (show ¬ i % 4 = 0 by omega)] | rw [if_neg (show ¬ i < 5 by omega)]) <;> first | rfl | exact m1_s _ | exact (m1_s _).symm | decide))) (M_345 _ _ X)
set_option maxHeartbeats 4000000 in
set_option maxRecDepth 100000 in
theorem a_role {p : Program} {l : Launch} {e : Env} {s : State} {m : MethodId} {below : List Frame} {meth : Method} {c : Code} {E : State} {G : kG} {o : Int64} {Q : State → Prop} {b i : Nat} {S T : kSt} {ad : kAd} {x1 x2 wq uq : Nat} (hE : kE l E G) (Z : kZ p m c code 24 s #[Value.ref b] wsL_law RL E G) (hi : i < 64) (hx1 : x1 < 60000) (hx2 : x2 < 60000) (hwq : wq < 32) (hI : Iv i S T) (huq : uq ≤ S.2 0 0) (K : lwF p l e s m below meth c E G b i x1 o Q) : ∀ (H : Heap) (locs : List Loc) (ls : Array Slot), kX E G s H locs ad (cto G S T o ad) → lv_has ls 24 [(0, .ref b), (1, .ref (ad 0 0)), (2, .ref (ad 17 0)), (3, .ref (ad 17 1)), (4, .ref (ad 17 2)), (5, .ref (ad 17 3)), (6, .ref (ad 17 4)), (7, .ref (ad 17 5)), (8, .ref (ad 17 6)), (9, .ref (ad 17 7)), (10, .ref (ad 17 8)), (11, .ref (ad 17 9)), (12, .ref (ad 17 10)), (13, .int 1), (14, .int (nI i)), (15, .int (nI wq)), (16, .int (nI x1)), (17, .int (nI x2)), (18, .int (nI uq)), (19, .int (bI (decide (uq < S.2 0 0))))] → W p l e room_1 s m #[Value.ref b] below meth c H locs (1100 * i + 200) (8000 * i + 9000) Q (F0 m 429 ls []) := by
  intro H locs ls X hl
  have hx := Z.1.1
  have hb := Z.1.2.1
  have hT := hI.lt
  obtain ⟨hS, hL, hK9, hLg, hRp, hlog9, hB⟩ := hI.1.ok
  have hN := hS
  have hlog : S.2 0 4 < 512 := by omega
  obtain ⟨hc0, hc1, hc2, hc3⟩ := hT.c
  refine lv_iload hx hb dL_law_429 (lv_at hl 17 rfl) ?_
  refine lv_iconst (v := 5) hx hb dL_law_431 (by decide) ?_
  refine lv_irem hx hb dL_law_432 (by decide) ?_
  refine lv_topi (fun x_432 e_432 => ?_)
  obtain rfl : x_432 = nI (x2 % 5) := e_432.trans ((pk_rem (a := x2) (d := 5) (by omega) (by omega) (by omega)))
  refine lv_istore (lv' := [(20, .int (nI (x2 % 5))), (0, .ref b), (1, .ref (ad 0 0)), (2, .ref (ad 17 0)), (3, .ref (ad 17 1)), (4, .ref (ad 17 2)), (5, .ref (ad 17 3)), (6, .ref (ad 17 4)), (7, .ref (ad 17 5)), (8, .ref (ad 17 6)), (9, .ref (ad 17 7)), (10, .ref (ad 17 8)), (11, .ref (ad 17 9)), (12, .ref (ad 17 10)), (13, .int 1), (14, .int (nI i)), (15, .int (nI wq)), (16, .int (nI x1)), (17, .int (nI x2)), (18, .int (nI uq)), (19, .int (bI (decide (uq < S.2 0 0))))]) hx hb dL_law_433 hl (by decide) rfl (fun ls hl => ?_)
  refine lv_iload hx hb dL_law_435 (lv_at hl 20 rfl) ?_
  refine lv_if_eq (tgt := 447) hx hb dL_law_437 (by decide) (fun c_437 => ?_) (fun c_437 => ?_)
  · have c_437 : (decide (uq < S.2 0 0)) = false := bI_0 c_437
    rw [c_437] at hl
    refine lv_iconst (v := 0) hx hb dL_law_447 (by decide) ?_
    refine lv_istore (lv' := [(21, .int 0), (20, .int (nI (x2 % 5))), (0, .ref b), (1, .ref (ad 0 0)), (2, .ref (ad 17 0)), (3, .ref (ad 17 1)), (4, .ref (ad 17 2)), (5, .ref (ad 17 3)), (6, .ref (ad 17 4)), (7, .ref (ad 17 5)), (8, .ref (ad 17 6)), (9, .ref (ad 17 7)), (10, .ref (ad 17 8)), (11, .ref (ad 17 9)), (12, .ref (ad 17 10)), (13, .int 1), (14, .int (nI i)), (15, .int (nI wq)), (16, .int (nI x1)), (17, .int (nI x2)), (18, .int (nI uq)), (19, .int (bI false))]) hx hb dL_law_448 hl (by decide) rfl (fun ls hl => ?_)
    have M_461 : ∀ (H : Heap) (locs : List Loc), kX E G s H locs ad (cto G S T o ad) → W p l e room_1 s m #[Value.ref b] below meth c H locs (1100 * i + 200) (8000 * i + 9000) Q (F0 m 461 ls [.int (bI (decide (x2 % 5 < 4)))]) := by
      intro H locs X
      refine lv_istore (lv' := [(22, .int (bI (decide (x2 % 5 < 4)))), (21, .int 0), (20, .int (nI (x2 % 5))), (0, .ref b), (1, .ref (ad 0 0)), (2, .ref (ad 17 0)), (3, .ref (ad 17 1)), (4, .ref (ad 17 2)), (5, .ref (ad 17 3)), (6, .ref (ad 17 4)), (7, .ref (ad 17 5)), (8, .ref (ad 17 6)), (9, .ref (ad 17 7)), (10, .ref (ad 17 8)), (11, .ref (ad 17 9)), (12, .ref (ad 17 10)), (13, .int 1), (14, .int (nI i)), (15, .int (nI wq)), (16, .int (nI x1)), (17, .int (nI x2)), (18, .int (nI uq)), (19, .int (bI false))]) hx hb dL_law_461 hl (by decide) rfl (fun ls hl => ?_)
      refine lv_iload hx hb dL_law_463 (lv_at hl 22 rfl) ?_
      refine lv_if_eq (tgt := 479) hx hb dL_law_465 (by decide) (fun c_465 => ?_) (fun c_465 => ?_)
      · refine lv_aload_n hx hb dL_law_479 rfl (lv_at hl 4 rfl) ?_
        refine lv_iconst (v := 1) hx hb dL_law_480 (by decide) ?_
        refine lv_iload hx hb dL_law_481 (lv_at hl 21 rfl) ?_
        refine lv_iload hx hb dL_law_483 (lv_at hl 2 rfl) ?_
        refine lv_iconst (v := 0) hx hb dL_law_485 (by decide) ?_
        refine lv_iconst (v := 0) hx hb dL_law_486 (by decide) ?_
        refine k_xRi X (k_xrunSW (As := [.ref (ad 0 0), .int 1, .int (nI uq), .int (nI (x2 % 5)), .int 0, .int 0]) (rest := []) Z X (c_L_does_1 l E G S T o ad (nI uq) (nI (x2 % 5)) 0 0 hE hS hL hK9) (k_cwSW 6 Z.1.2.2.2.2 (inU_6 _ (List.mem_of_getElem? (i := 3) rfl)) (inU_6 _ (List.mem_of_getElem? (i := 4) rfl)) (inU_6 _ (List.mem_of_getElem? (i := 5) rfl)) (inU_6 _ (List.mem_of_getElem? (i := 6) rfl)) rfl rfl (by decide +kernel) ⟨(Nat.le_of_ble_eq_true rfl), (Nat.le_of_ble_eq_true rfl)⟩) rfl hl.1 rfl (Nat.le_of_ble_eq_true rfl) dL_law_487 ⟨(by first | exact rm_c (by omega) | exact rm_s (by omega)), (by first | exact rm_c (by omega) | exact rm_s (by omega))⟩) (fun _ _ _ _ _ _ _ hp => hp.elim) (fun r_487 ad1 ct1 H locs hp X => ?_)
        have hC : cRole S (nI uq) (nI (x2 % 5)) = 1 := by rw [cRole_v (by omega) (by omega), if_neg (of_decide_eq_false c_437)]
        obtain ⟨ha_, hq⟩ := hp
        rcases hq with ⟨z, -⟩ | ⟨z, hr_, hb_⟩ | ⟨z, -⟩ | ⟨z, -⟩
        case inl => exact absurd (hC.symm.trans z) (by decide)
        case inr.inr.inl => exact absurd (hC.symm.trans z) (by decide)
        case inr.inr.inr => exact absurd (hC.symm.trans z) (by decide)
        subst hr_
        rw [hb_, ← ha_] at X
        refine lv_iload hx hb dL_law_490 (lv_at hl 22 rfl) ?_
        refine lv_if_ne (tgt := 500) hx hb dL_law_492 (by decide) (fun c_492 => ?_) (fun c_492 => ?_)
        · exact absurd c_492 (by decide)
        · refine lv_ldc (v := (-3000000)) hx hb Z.1.2.2.2.1 (Z.1.2.2.2.2 _ (inU_1 _ (List.mem_of_getElem? (i := 5) rfl))) dL_law_495 ?_
          refine lv_goto (tgt := 512) hx hb dL_law_497 (by decide) ?_
          refine lv_icmp_ne (tgt := 519) hx hb dL_law_512 (by decide) (fun c_512 => ?_) (fun c_512 => ?_)
          · exact absurd rfl c_512
          · refine lv_iconst (v := 1) hx hb dL_law_515 (by decide) ?_
            refine lv_goto (tgt := 520) hx hb dL_law_516 (by decide) ?_
            refine lv_istore (lv' := [(13, .int 1), (22, .int (bI (decide (x2 % 5 < 4)))), (21, .int 0), (20, .int (nI (x2 % 5))), (0, .ref b), (1, .ref (ad 0 0)), (2, .ref (ad 17 0)), (3, .ref (ad 17 1)), (4, .ref (ad 17 2)), (5, .ref (ad 17 3)), (6, .ref (ad 17 4)), (7, .ref (ad 17 5)), (8, .ref (ad 17 6)), (9, .ref (ad 17 7)), (10, .ref (ad 17 8)), (11, .ref (ad 17 9)), (12, .ref (ad 17 10)), (14, .int (nI i)), (15, .int (nI wq)), (16, .int (nI x1)), (17, .int (nI x2)), (18, .int (nI uq)), (19, .int (bI false))]) hx hb dL_law_520 hl (by decide) rfl (fun ls hl => ?_)
            refine lv_goto (tgt := 1231) hx hb dL_law_522 (by decide) ?_
            refine W.widen (k := 1100 * i + 240) (n := 8000 * i + 10000) (by omega) (by omega) ?_
            exact K _ _ _ _ _ _ (hI.mid (by omega)) X (lv_sub hl [4, 5, 6, 7, 8, 9, 10, 11, 12, 13, 14, 15, 16, 0, 17, 19] rfl)
      · exact absurd c_465 (by decide)
    refine lv_iload hx hb dL_law_450 (lv_at hl 1 rfl) ?_
    refine lv_iconst (v := 4) hx hb dL_law_452 (by decide) ?_
    refine lv_icmp_ge (tgt := 460) hx hb dL_law_453 (by decide) (fun c_453 => ?_) (fun c_453 => ?_)
    · have c_453 : 4 ≤ x2 % 5 := (nI_leI (a := 4) (b := x2 % 5) (by omega) (by omega)).mp c_453
      refine lv_iconst (v := 0) hx hb dL_law_460 (by decide) ?_
      exact W.eq (congrArg (fun z => F0 m 461 ls (.int z :: [])) (bI_f (decide_eq_false (by omega)))) (M_461 _ _ X)
    · have c_453 : ¬ 4 ≤ x2 % 5 := fun h => c_453 ((nI_leI (a := 4) (b := x2 % 5) (by omega) (by omega)).mpr h)
      refine lv_iconst (v := 1) hx hb dL_law_456 (by decide) ?_
      refine lv_goto (tgt := 461) hx hb dL_law_457 (by decide) ?_
      exact W.eq (congrArg (fun z => F0 m 461 ls (.int z :: [])) (bI_t (decide_eq_true (by omega)))) (M_461 _ _ X)
  · have c_437 : (decide (uq < S.2 0 0)) = true := bI_1 c_437
    have hu1 := of_decide_eq_true c_437
    rw [c_437] at hl
    refine lv_aload_n hx hb dL_law_440 rfl (lv_at hl 3 rfl) ?_
    refine lv_iload hx hb dL_law_441 (lv_at hl 19 rfl) ?_
    refine k_ild (ad := ad) (k := 17) (i := 0) Z X ct_17_0 (vp_in_nI (n := uq) (by first | assumption | omega) (by decide)) dL_law_443 ?_
    refine lv_topi (fun x_443 e_443 => ?_)
    obtain rfl : x_443 = T.1 1 uq := e_443.trans (by first | (simp only [nI_clamp (show uq < 2 ^ 31 by omega)]; done) | rfl | (simp only [nI_clamp (show uq < 2 ^ 31 by omega)]; rfl) | (simp only [nI_clamp (show uq < 2 ^ 31 by omega)]; simp [sI, sN]; done))
    refine lv_topi (fun x_443 e_443 => ?_)
    obtain rfl : x_443 = S.1 1 uq := e_443.trans (hT.u (by omega))
    refine lv_goto (tgt := 448) hx hb dL_law_444 (by decide) ?_
    refine lv_istore (lv' := [(21, .int (S.1 1 uq)), (20, .int (nI (x2 % 5))), (0, .ref b), (1, .ref (ad 0 0)), (2, .ref (ad 17 0)), (3, .ref (ad 17 1)), (4, .ref (ad 17 2)), (5, .ref (ad 17 3)), (6, .ref (ad 17 4)), (7, .ref (ad 17 5)), (8, .ref (ad 17 6)), (9, .ref (ad 17 7)), (10, .ref (ad 17 8)), (11, .ref (ad 17 9)), (12, .ref (ad 17 10)), (13, .int 1), (14, .int (nI i)), (15, .int (nI wq)), (16, .int (nI x1)), (17, .int (nI x2)), (18, .int (nI uq)), (19, .int (bI true))]) hx hb dL_law_448 hl (by decide) rfl (fun ls hl => ?_)
    have M_461 : ∀ (H : Heap) (locs : List Loc), kX E G s H locs ad (cto G S T o ad) → W p l e room_1 s m #[Value.ref b] below meth c H locs (1100 * i + 200) (8000 * i + 9000) Q (F0 m 461 ls [.int (bI (decide (x2 % 5 < 4)))]) := by
      intro H locs X
      refine lv_istore (lv' := [(22, .int (bI (decide (x2 % 5 < 4)))), (21, .int (S.1 1 uq)), (20, .int (nI (x2 % 5))), (0, .ref b), (1, .ref (ad 0 0)), (2, .ref (ad 17 0)), (3, .ref (ad 17 1)), (4, .ref (ad 17 2)), (5, .ref (ad 17 3)), (6, .ref (ad 17 4)), (7, .ref (ad 17 5)), (8, .ref (ad 17 6)), (9, .ref (ad 17 7)), (10, .ref (ad 17 8)), (11, .ref (ad 17 9)), (12, .ref (ad 17 10)), (13, .int 1), (14, .int (nI i)), (15, .int (nI wq)), (16, .int (nI x1)), (17, .int (nI x2)), (18, .int (nI uq)), (19, .int (bI true))]) hx hb dL_law_461 hl (by decide) rfl (fun ls hl => ?_)
      refine lv_iload hx hb dL_law_463 (lv_at hl 22 rfl) ?_
      refine lv_if_eq (tgt := 479) hx hb dL_law_465 (by decide) (fun c_465 => ?_) (fun c_465 => ?_)
      · exact absurd c_465 (by decide)
      · refine lv_iload hx hb dL_law_468 (lv_at hl 0 rfl) ?_
        refine lv_if_eq (tgt := 479) hx hb dL_law_470 (by decide) (fun c_470 => ?_) (fun c_470 => ?_)
        · have c_470 : (decide (x2 % 5 < 4)) = false := bI_0 c_470
          rw [c_470] at hl
          refine lv_aload_n hx hb dL_law_479 rfl (lv_at hl 4 rfl) ?_
          refine lv_iconst (v := 1) hx hb dL_law_480 (by decide) ?_
          refine lv_iload hx hb dL_law_481 (lv_at hl 21 rfl) ?_
          refine lv_iload hx hb dL_law_483 (lv_at hl 2 rfl) ?_
          refine lv_iconst (v := 0) hx hb dL_law_485 (by decide) ?_
          refine lv_iconst (v := 0) hx hb dL_law_486 (by decide) ?_
          refine k_xRi X (k_xrunSW (As := [.ref (ad 0 0), .int 1, .int (nI uq), .int (nI (x2 % 5)), .int 0, .int 0]) (rest := []) Z X (c_L_does_1 l E G S T o ad (nI uq) (nI (x2 % 5)) 0 0 hE hS hL hK9) (k_cwSW 6 Z.1.2.2.2.2 (inU_6 _ (List.mem_of_getElem? (i := 3) rfl)) (inU_6 _ (List.mem_of_getElem? (i := 4) rfl)) (inU_6 _ (List.mem_of_getElem? (i := 5) rfl)) (inU_6 _ (List.mem_of_getElem? (i := 6) rfl)) rfl rfl (by decide +kernel) ⟨(Nat.le_of_ble_eq_true rfl), (Nat.le_of_ble_eq_true rfl)⟩) rfl hl.1 rfl (Nat.le_of_ble_eq_true rfl) dL_law_487 ⟨(by first | exact rm_c (by omega) | exact rm_s (by omega)), (by first | exact rm_c (by omega) | exact rm_s (by omega))⟩) (fun _ _ _ _ _ _ _ hp => hp.elim) (fun r_487 ad1 ct1 H locs hp X => ?_)
          have hC : cRole S (nI uq) (nI (x2 % 5)) = 2 := by rw [cRole_v (by omega) (by omega), if_pos hu1, if_neg (of_decide_eq_false c_470)]
          obtain ⟨ha_, hq⟩ := hp
          rcases hq with ⟨z, -⟩ | ⟨z, -⟩ | ⟨z, hr_, hb_⟩ | ⟨z, -⟩
          case inl => exact absurd (hC.symm.trans z) (by decide)
          case inr.inl => exact absurd (hC.symm.trans z) (by decide)
          case inr.inr.inr => exact absurd (hC.symm.trans z) (by decide)
          subst hr_
          rw [hb_, ← ha_] at X
          refine lv_iload hx hb dL_law_490 (lv_at hl 22 rfl) ?_
          refine lv_if_ne (tgt := 500) hx hb dL_law_492 (by decide) (fun c_492 => ?_) (fun c_492 => ?_)
          · refine lv_iload hx hb dL_law_500 (lv_at hl 0 rfl) ?_
            refine lv_if_eq (tgt := 510) hx hb dL_law_502 (by decide) (fun c_502 => ?_) (fun c_502 => ?_)
            · refine lv_ldc (v := (-2000000)) hx hb Z.1.2.2.2.1 (Z.1.2.2.2.2 _ (inU_1 _ (List.mem_of_getElem? (i := 4) rfl))) dL_law_510 ?_
              refine lv_icmp_ne (tgt := 519) hx hb dL_law_512 (by decide) (fun c_512 => ?_) (fun c_512 => ?_)
              · exact absurd rfl c_512
              · refine lv_iconst (v := 1) hx hb dL_law_515 (by decide) ?_
                refine lv_goto (tgt := 520) hx hb dL_law_516 (by decide) ?_
                refine lv_istore (lv' := [(13, .int 1), (22, .int (bI false)), (21, .int (S.1 1 uq)), (20, .int (nI (x2 % 5))), (0, .ref b), (1, .ref (ad 0 0)), (2, .ref (ad 17 0)), (3, .ref (ad 17 1)), (4, .ref (ad 17 2)), (5, .ref (ad 17 3)), (6, .ref (ad 17 4)), (7, .ref (ad 17 5)), (8, .ref (ad 17 6)), (9, .ref (ad 17 7)), (10, .ref (ad 17 8)), (11, .ref (ad 17 9)), (12, .ref (ad 17 10)), (14, .int (nI i)), (15, .int (nI wq)), (16, .int (nI x1)), (17, .int (nI x2)), (18, .int (nI uq)), (19, .int (bI true))]) hx hb dL_law_520 hl (by decide) rfl (fun ls hl => ?_)
                refine lv_goto (tgt := 1231) hx hb dL_law_522 (by decide) ?_
                refine W.widen (k := 1100 * i + 240) (n := 8000 * i + 10000) (by omega) (by omega) ?_
                exact K _ _ _ _ _ _ (hI.mid (by omega)) X (lv_sub hl [4, 5, 6, 7, 8, 9, 10, 11, 12, 13, 14, 15, 16, 0, 17, 19] rfl)
            · exact absurd c_502 (by decide)
          · exact absurd c_492 (by decide)
        · have c_470 : (decide (x2 % 5 < 4)) = true := bI_1 c_470
          have hr4 := of_decide_eq_true c_470
          rw [c_470] at hl
          refine lv_aload_n hx hb dL_law_473 rfl (lv_at hl 5 rfl) ?_
          refine lv_iload hx hb dL_law_474 (lv_at hl 21 rfl) ?_
          refine lv_iload hx hb dL_law_476 (lv_at hl 2 rfl) ?_
          refine k_ist (ad := ad) (k := 17) (i := 0) Z X ct_17_0 (vp_in_nI (n := uq) (by first | assumption | omega) (by decide)) dL_law_478 (fun H locs X => ?_)
          have X : kX E G s H locs ad (cto G S (sI T 1 uq (nI (x2 % 5))) o ad) := X.eq (st_17 (a := 0) (by decide) uq _ (by omega))
          refine lv_aload_n hx hb dL_law_479 rfl (lv_at hl 4 rfl) ?_
          refine lv_iconst (v := 1) hx hb dL_law_480 (by decide) ?_
          refine lv_iload hx hb dL_law_481 (lv_at hl 21 rfl) ?_
          refine lv_iload hx hb dL_law_483 (lv_at hl 2 rfl) ?_
          refine lv_iconst (v := 0) hx hb dL_law_485 (by decide) ?_
          refine lv_iconst (v := 0) hx hb dL_law_486 (by decide) ?_
          refine k_xRi X (k_xrunSW (As := [.ref (ad 0 0), .int 1, .int (nI uq), .int (nI (x2 % 5)), .int 0, .int 0]) (rest := []) Z X (c_L_does_1 l E G S (sI T 1 uq (nI (x2 % 5))) o ad (nI uq) (nI (x2 % 5)) 0 0 hE hS hL hK9) (k_cwSW 6 Z.1.2.2.2.2 (inU_6 _ (List.mem_of_getElem? (i := 3) rfl)) (inU_6 _ (List.mem_of_getElem? (i := 4) rfl)) (inU_6 _ (List.mem_of_getElem? (i := 5) rfl)) (inU_6 _ (List.mem_of_getElem? (i := 6) rfl)) rfl rfl (by decide +kernel) ⟨(Nat.le_of_ble_eq_true rfl), (Nat.le_of_ble_eq_true rfl)⟩) rfl hl.1 rfl (Nat.le_of_ble_eq_true rfl) dL_law_487 ⟨(by first | exact rm_c (by omega) | exact rm_s (by omega)), (by first | exact rm_c (by omega) | exact rm_s (by omega))⟩) (fun _ _ _ _ _ _ _ hp => hp.elim) (fun r_487 ad1 ct1 H locs hp X => ?_)
          have hC : cRole S (nI uq) (nI (x2 % 5)) = 0 := by rw [cRole_v (by omega) (by omega), if_pos hu1, if_pos hr4]
          obtain ⟨ha_, hq⟩ := hp
          rcases hq with ⟨z, hr_, S1, hS1, hb_⟩ | ⟨z, -⟩ | ⟨z, -⟩ | ⟨z, -⟩
          case inr.inl => exact absurd (hC.symm.trans z) (by decide)
          case inr.inr.inl => exact absurd (hC.symm.trans z) (by decide)
          case inr.inr.inr => exact absurd (hC.symm.trans z) (by decide)
          subst hr_
          rw [hb_, ← ha_, show S1 = (oRole S (kdS S) (nI uq) (nI (x2 % 5))) from hS1] at X
          refine lv_topi (fun y_487 f_487 => ?_)
          obtain rfl : y_487 = S.1 1 uq := f_487.trans (by rw [cl_n (show uq < 2 ^ 31 by omega)])
          refine lv_iload hx hb dL_law_490 (lv_at hl 22 rfl) ?_
          refine lv_if_ne (tgt := 500) hx hb dL_law_492 (by decide) (fun c_492 => ?_) (fun c_492 => ?_)
          · refine lv_iload hx hb dL_law_500 (lv_at hl 0 rfl) ?_
            refine lv_if_eq (tgt := 510) hx hb dL_law_502 (by decide) (fun c_502 => ?_) (fun c_502 => ?_)
            · exact absurd c_502 (by decide)
            · refine lv_iload hx hb dL_law_505 (lv_at hl 1 rfl) ?_
              refine lv_goto (tgt := 512) hx hb dL_law_507 (by decide) ?_
              refine lv_icmp_ne (tgt := 519) hx hb dL_law_512 (by decide) (fun c_512 => ?_) (fun c_512 => ?_)
              · exact absurd rfl c_512
              · refine lv_iconst (v := 1) hx hb dL_law_515 (by decide) ?_
                refine lv_goto (tgt := 520) hx hb dL_law_516 (by decide) ?_
                refine lv_istore (lv' := [(13, .int 1), (22, .int (bI true)), (21, .int (S.1 1 uq)), (20, .int (nI (x2 % 5))), (0, .ref b), (1, .ref (ad 0 0)), (2, .ref (ad 17 0)), (3, .ref (ad 17 1)), (4, .ref (ad 17 2)), (5, .ref (ad 17 3)), (6, .ref (ad 17 4)), (7, .ref (ad 17 5)), (8, .ref (ad 17 6)), (9, .ref (ad 17 7)), (10, .ref (ad 17 8)), (11, .ref (ad 17 9)), (12, .ref (ad 17 10)), (14, .int (nI i)), (15, .int (nI wq)), (16, .int (nI x1)), (17, .int (nI x2)), (18, .int (nI uq)), (19, .int (bI true))]) hx hb dL_law_520 hl (by decide) rfl (fun ls hl => ?_)
                refine lv_goto (tgt := 1231) hx hb dL_law_522 (by decide) ?_
                refine W.widen (k := 1100 * i + 240) (n := 8000 * i + 10000) (by omega) (by omega) ?_
                exact K _ _ _ _ _ _ (Mid.role hI hu1 hr4) X (lv_sub hl [4, 5, 6, 7, 8, 9, 10, 11, 12, 13, 14, 15, 16, 0, 17, 19] rfl)
          · exact absurd c_492 (by decide)
    refine lv_iload hx hb dL_law_450 (lv_at hl 1 rfl) ?_
    refine lv_iconst (v := 4) hx hb dL_law_452 (by decide) ?_
    refine lv_icmp_ge (tgt := 460) hx hb dL_law_453 (by decide) (fun c_453 => ?_) (fun c_453 => ?_)
    · have c_453 : 4 ≤ x2 % 5 := (nI_leI (a := 4) (b := x2 % 5) (by omega) (by omega)).mp c_453
      refine lv_iconst (v := 0) hx hb dL_law_460 (by decide) ?_
      exact W.eq (congrArg (fun z => F0 m 461 ls (.int z :: [])) (bI_f (decide_eq_false (by omega)))) (M_461 _ _ X)
    · have c_453 : ¬ 4 ≤ x2 % 5 := fun h => c_453 ((nI_leI (a := 4) (b := x2 % 5) (by omega) (by omega)).mpr h)
      refine lv_iconst (v := 1) hx hb dL_law_456 (by decide) ?_
      refine lv_goto (tgt := 461) hx hb dL_law_457 (by decide) ?_
      exact W.eq (congrArg (fun z => F0 m 461 ls (.int z :: [])) (bI_t (decide_eq_true (by omega)))) (M_461 _ _ X)
set_option maxHeartbeats 4000000 in
set_option maxRecDepth 100000 in
theorem a_ends {p : Program} {l : Launch} {e : Env} {s : State} {m : MethodId} {below : List Frame} {meth : Method} {c : Code} {E : State} {G : kG} {o : Int64} {Q : State → Prop} {b i : Nat} {S T : kSt} {ad : kAd} {x1 x2 wq uq : Nat} (hE : kE l E G) (Z : kZ p m c code 24 s #[Value.ref b] wsL_law RL E G) (hi : i < 64) (hx1 : x1 < 60000) (hx2 : x2 < 60000) (hwq : wq < 32) (hI : Iv i S T) (huq : uq ≤ S.2 0 0) (K : lwF p l e s m below meth c E G b i x1 o Q) : ∀ (H : Heap) (locs : List Loc) (ls : Array Slot), kX E G s H locs ad (cto G S T o ad) → lv_has ls 24 [(0, .ref b), (1, .ref (ad 0 0)), (2, .ref (ad 17 0)), (3, .ref (ad 17 1)), (4, .ref (ad 17 2)), (5, .ref (ad 17 3)), (6, .ref (ad 17 4)), (7, .ref (ad 17 5)), (8, .ref (ad 17 6)), (9, .ref (ad 17 7)), (10, .ref (ad 17 8)), (11, .ref (ad 17 9)), (12, .ref (ad 17 10)), (13, .int 1), (14, .int (nI i)), (15, .int (nI wq)), (16, .int (nI x1)), (17, .int (nI x2)), (18, .int (nI uq)), (19, .int (bI (decide (uq < S.2 0 0))))] → W p l e room_1 s m #[Value.ref b] below meth c H locs (1100 * i + 200) (8000 * i + 9000) Q (F0 m 531 ls []) := by
  intro H locs ls X hl
  have hx := Z.1.1
  have hb := Z.1.2.1
  have hT := hI.lt
  obtain ⟨hS, hL, hK9, hLg, hRp, hlog9, hB⟩ := hI.1.ok
  have hN := hS
  have hlog : S.2 0 4 < 512 := by omega
  obtain ⟨hc0, hc1, hc2, hc3⟩ := hT.c
  obtain ⟨hq, ehq⟩ : ∃ y, y = hoE x2 := ⟨_, rfl⟩
  have hhq : hq ≤ 10002 := by rw [ehq]; exact hoE_lt x2
  obtain ⟨hr0, hhr, ehr⟩ := hI.hrs (by omega)
  have M_568 : ∀ (H : Heap) (locs : List Loc), kX E G s H locs ad (cto G S T o ad) → W p l e room_1 s m #[Value.ref b] below meth c H locs (1100 * i + 200) (8000 * i + 9000) Q (F0 m 568 ls [.int (nI hq - 1)]) := by
    intro H locs X
    refine lv_istore (lv' := [(20, .int (nI hq - 1)), (0, .ref b), (1, .ref (ad 0 0)), (2, .ref (ad 17 0)), (3, .ref (ad 17 1)), (4, .ref (ad 17 2)), (5, .ref (ad 17 3)), (6, .ref (ad 17 4)), (7, .ref (ad 17 5)), (8, .ref (ad 17 6)), (9, .ref (ad 17 7)), (10, .ref (ad 17 8)), (11, .ref (ad 17 9)), (12, .ref (ad 17 10)), (13, .int 1), (14, .int (nI i)), (15, .int (nI wq)), (16, .int (nI x1)), (17, .int (nI x2)), (18, .int (nI uq)), (19, .int (bI (decide (uq < S.2 0 0))))]) hx hb dL_law_568 hl (by decide) rfl (fun ls hl => ?_)
    have M_583 : ∀ (H : Heap) (locs : List Loc), kX E G s H locs ad (cto G S T o ad) → W p l e room_1 s m #[Value.ref b] below meth c H locs (1100 * i + 200) (8000 * i + 9000) Q (F0 m 583 ls [.int (bI (decide (hq < 10002)))]) := by
      intro H locs X
      refine lv_istore (lv' := [(21, .int (bI (decide (hq < 10002)))), (20, .int (nI hq - 1)), (0, .ref b), (1, .ref (ad 0 0)), (2, .ref (ad 17 0)), (3, .ref (ad 17 1)), (4, .ref (ad 17 2)), (5, .ref (ad 17 3)), (6, .ref (ad 17 4)), (7, .ref (ad 17 5)), (8, .ref (ad 17 6)), (9, .ref (ad 17 7)), (10, .ref (ad 17 8)), (11, .ref (ad 17 9)), (12, .ref (ad 17 10)), (13, .int 1), (14, .int (nI i)), (15, .int (nI wq)), (16, .int (nI x1)), (17, .int (nI x2)), (18, .int (nI uq)), (19, .int (bI (decide (uq < S.2 0 0))))]) hx hb dL_law_583 hl (by decide) rfl (fun ls hl => ?_)
      have M_601 : ∀ (H : Heap) (locs : List Loc), kX E G s H locs ad (cto G S T o ad) → W p l e room_1 s m #[Value.ref b] below meth c H locs (1100 * i + 200) (8000 * i + 9000) Q (F0 m 601 ls [.int (vEnds S (nI hq - 1))]) := by
        intro H locs X
        refine lv_istore (lv' := [(22, .int (vEnds S (nI hq - 1))), (21, .int (bI (decide (hq < 10002)))), (20, .int (nI hq - 1)), (0, .ref b), (1, .ref (ad 0 0)), (2, .ref (ad 17 0)), (3, .ref (ad 17 1)), (4, .ref (ad 17 2)), (5, .ref (ad 17 3)), (6, .ref (ad 17 4)), (7, .ref (ad 17 5)), (8, .ref (ad 17 6)), (9, .ref (ad 17 7)), (10, .ref (ad 17 8)), (11, .ref (ad 17 9)), (12, .ref (ad 17 10)), (13, .int 1), (14, .int (nI i)), (15, .int (nI wq)), (16, .int (nI x1)), (17, .int (nI x2)), (18, .int (nI uq)), (19, .int (bI (decide (uq < S.2 0 0))))]) hx hb dL_law_601 hl (by decide) rfl (fun ls hl => ?_)
        refine lv_iload hx hb dL_law_603 (lv_at hl 22 rfl) ?_
        refine lv_if_eq (tgt := 622) hx hb dL_law_605 (by decide) (fun c_605 => ?_) (fun c_605 => ?_)
        · have c_605 : (decide (uq < S.2 0 0)) = false := bI_0 c_605
          rw [c_605] at hl
          refine lv_aload_n hx hb dL_law_622 rfl (lv_at hl 4 rfl) ?_
          refine lv_iconst (v := 2) hx hb dL_law_623 (by decide) ?_
          refine lv_iload hx hb dL_law_624 (lv_at hl 21 rfl) ?_
          refine lv_iload hx hb dL_law_626 (lv_at hl 2 rfl) ?_
          refine lv_iconst (v := 0) hx hb dL_law_628 (by decide) ?_
          refine lv_iconst (v := 0) hx hb dL_law_629 (by decide) ?_
          refine k_xRi X (k_xrunSW (As := [.ref (ad 0 0), .int 2, .int (nI uq), .int (nI hq - 1), .int 0, .int 0]) (rest := []) Z X (c_L_does_2 l E G S T o ad (nI uq) (nI hq - 1) 0 0 hE hS hL hK9) (k_cwSW 6 Z.1.2.2.2.2 (inU_6 _ (List.mem_of_getElem? (i := 3) rfl)) (inU_6 _ (List.mem_of_getElem? (i := 4) rfl)) (inU_6 _ (List.mem_of_getElem? (i := 5) rfl)) (inU_6 _ (List.mem_of_getElem? (i := 6) rfl)) rfl rfl (by decide +kernel) ⟨(Nat.le_of_ble_eq_true rfl), (Nat.le_of_ble_eq_true rfl)⟩) rfl hl.1 rfl (Nat.le_of_ble_eq_true rfl) dL_law_630 ⟨(by first | exact rm_c (by omega) | exact rm_s (by omega)), (by first | exact rm_c (by omega) | exact rm_s (by omega))⟩) (fun _ _ _ _ _ _ _ hp => hp.elim) (fun r_630 ad1 ct1 H locs hp X => ?_)
          have hC : cEnds S (nI uq) (nI hq - 1) = 1 := by rw [cEnds_v (by omega) (by omega), if_neg (of_decide_eq_false c_605)]
          obtain ⟨ha_, hq⟩ := hp
          rcases hq with ⟨z, -⟩ | ⟨z, hr_, hb_⟩ | ⟨z, -⟩ | ⟨z, -⟩
          case inl => exact absurd (hC.symm.trans z) (by decide)
          case inr.inr.inl => exact absurd (hC.symm.trans z) (by decide)
          case inr.inr.inr => exact absurd (hC.symm.trans z) (by decide)
          subst hr_
          rw [hb_, ← ha_] at X
          refine lv_iload hx hb dL_law_633 (lv_at hl 22 rfl) ?_
          refine lv_if_ne (tgt := 643) hx hb dL_law_635 (by decide) (fun c_635 => ?_) (fun c_635 => ?_)
          · exact absurd c_635 (by decide)
          · refine lv_ldc (v := (-3000000)) hx hb Z.1.2.2.2.1 (Z.1.2.2.2.2 _ (inU_1 _ (List.mem_of_getElem? (i := 5) rfl))) dL_law_638 ?_
            refine lv_goto (tgt := 655) hx hb dL_law_640 (by decide) ?_
            refine lv_icmp_ne (tgt := 662) hx hb dL_law_655 (by decide) (fun c_655 => ?_) (fun c_655 => ?_)
            · exact absurd rfl c_655
            · refine lv_iconst (v := 1) hx hb dL_law_658 (by decide) ?_
              refine lv_goto (tgt := 663) hx hb dL_law_659 (by decide) ?_
              refine lv_istore (lv' := [(13, .int 1), (22, .int (vEnds S (nI hq - 1))), (21, .int (bI (decide (hq < 10002)))), (20, .int (nI hq - 1)), (0, .ref b), (1, .ref (ad 0 0)), (2, .ref (ad 17 0)), (3, .ref (ad 17 1)), (4, .ref (ad 17 2)), (5, .ref (ad 17 3)), (6, .ref (ad 17 4)), (7, .ref (ad 17 5)), (8, .ref (ad 17 6)), (9, .ref (ad 17 7)), (10, .ref (ad 17 8)), (11, .ref (ad 17 9)), (12, .ref (ad 17 10)), (14, .int (nI i)), (15, .int (nI wq)), (16, .int (nI x1)), (17, .int (nI x2)), (18, .int (nI uq)), (19, .int (bI false))]) hx hb dL_law_663 hl (by decide) rfl (fun ls hl => ?_)
              refine lv_goto (tgt := 1231) hx hb dL_law_665 (by decide) ?_
              refine W.widen (k := 1100 * i + 240) (n := 8000 * i + 10000) (by omega) (by omega) ?_
              exact K _ _ _ _ _ _ (hI.mid (by omega)) X (lv_sub hl [4, 5, 6, 7, 8, 9, 10, 11, 12, 13, 14, 15, 16, 0, 17, 19] rfl)
        · have c_605 : (decide (uq < S.2 0 0)) = true := bI_1 c_605
          have hu1 := of_decide_eq_true c_605
          rw [c_605] at hl
          refine lv_iload hx hb dL_law_608 (lv_at hl 1 rfl) ?_
          refine lv_if_eq (tgt := 622) hx hb dL_law_610 (by decide) (fun c_610 => ?_) (fun c_610 => ?_)
          · have c_610 : (decide (hq < 10002)) = false := bI_0 c_610
            rw [c_610] at hl
            refine lv_aload_n hx hb dL_law_622 rfl (lv_at hl 4 rfl) ?_
            refine lv_iconst (v := 2) hx hb dL_law_623 (by decide) ?_
            refine lv_iload hx hb dL_law_624 (lv_at hl 21 rfl) ?_
            refine lv_iload hx hb dL_law_626 (lv_at hl 2 rfl) ?_
            refine lv_iconst (v := 0) hx hb dL_law_628 (by decide) ?_
            refine lv_iconst (v := 0) hx hb dL_law_629 (by decide) ?_
            refine k_xRi X (k_xrunSW (As := [.ref (ad 0 0), .int 2, .int (nI uq), .int (nI hq - 1), .int 0, .int 0]) (rest := []) Z X (c_L_does_2 l E G S T o ad (nI uq) (nI hq - 1) 0 0 hE hS hL hK9) (k_cwSW 6 Z.1.2.2.2.2 (inU_6 _ (List.mem_of_getElem? (i := 3) rfl)) (inU_6 _ (List.mem_of_getElem? (i := 4) rfl)) (inU_6 _ (List.mem_of_getElem? (i := 5) rfl)) (inU_6 _ (List.mem_of_getElem? (i := 6) rfl)) rfl rfl (by decide +kernel) ⟨(Nat.le_of_ble_eq_true rfl), (Nat.le_of_ble_eq_true rfl)⟩) rfl hl.1 rfl (Nat.le_of_ble_eq_true rfl) dL_law_630 ⟨(by first | exact rm_c (by omega) | exact rm_s (by omega)), (by first | exact rm_c (by omega) | exact rm_s (by omega))⟩) (fun _ _ _ _ _ _ _ hp => hp.elim) (fun r_630 ad1 ct1 H locs hp X => ?_)
            have hC : cEnds S (nI uq) (nI hq - 1) = 2 := by rw [cEnds_v (by omega) (by omega), if_pos hu1, if_neg (of_decide_eq_false c_610)]
            obtain ⟨ha_, hq⟩ := hp
            rcases hq with ⟨z, -⟩ | ⟨z, -⟩ | ⟨z, hr_, hb_⟩ | ⟨z, -⟩
            case inl => exact absurd (hC.symm.trans z) (by decide)
            case inr.inl => exact absurd (hC.symm.trans z) (by decide)
            case inr.inr.inr => exact absurd (hC.symm.trans z) (by decide)
            subst hr_
            rw [hb_, ← ha_] at X
            refine lv_iload hx hb dL_law_633 (lv_at hl 22 rfl) ?_
            refine lv_if_ne (tgt := 643) hx hb dL_law_635 (by decide) (fun c_635 => ?_) (fun c_635 => ?_)
            · refine lv_iload hx hb dL_law_643 (lv_at hl 1 rfl) ?_
              refine lv_if_eq (tgt := 653) hx hb dL_law_645 (by decide) (fun c_645 => ?_) (fun c_645 => ?_)
              · refine lv_ldc (v := (-2000000)) hx hb Z.1.2.2.2.1 (Z.1.2.2.2.2 _ (inU_1 _ (List.mem_of_getElem? (i := 4) rfl))) dL_law_653 ?_
                refine lv_icmp_ne (tgt := 662) hx hb dL_law_655 (by decide) (fun c_655 => ?_) (fun c_655 => ?_)
                · exact absurd rfl c_655
                · refine lv_iconst (v := 1) hx hb dL_law_658 (by decide) ?_
                  refine lv_goto (tgt := 663) hx hb dL_law_659 (by decide) ?_
                  refine lv_istore (lv' := [(13, .int 1), (22, .int (vEnds S (nI hq - 1))), (21, .int (bI false)), (20, .int (nI hq - 1)), (0, .ref b), (1, .ref (ad 0 0)), (2, .ref (ad 17 0)), (3, .ref (ad 17 1)), (4, .ref (ad 17 2)), (5, .ref (ad 17 3)), (6, .ref (ad 17 4)), (7, .ref (ad 17 5)), (8, .ref (ad 17 6)), (9, .ref (ad 17 7)), (10, .ref (ad 17 8)), (11, .ref (ad 17 9)), (12, .ref (ad 17 10)), (14, .int (nI i)), (15, .int (nI wq)), (16, .int (nI x1)), (17, .int (nI x2)), (18, .int (nI uq)), (19, .int (bI true))]) hx hb dL_law_663 hl (by decide) rfl (fun ls hl => ?_)
                  refine lv_goto (tgt := 1231) hx hb dL_law_665 (by decide) ?_
                  refine W.widen (k := 1100 * i + 240) (n := 8000 * i + 10000) (by omega) (by omega) ?_
                  exact K _ _ _ _ _ _ (hI.mid (by omega)) X (lv_sub hl [4, 5, 6, 7, 8, 9, 10, 11, 12, 13, 14, 15, 16, 0, 17, 19] rfl)
              · exact absurd c_645 (by decide)
            · exact absurd c_635 (by decide)
          · have c_610 : (decide (hq < 10002)) = true := bI_1 c_610
            have hr4 := of_decide_eq_true c_610
            rw [c_610] at hl
            refine lv_aload_n hx hb dL_law_613 rfl (lv_at hl 5 rfl) ?_
            refine lv_bipush (v := 8) hx hb dL_law_614 (by decide) ?_
            refine lv_iload hx hb dL_law_616 (lv_at hl 21 rfl) ?_
            refine lv_iadd hx hb dL_law_618 ?_
            refine lv_topi (fun x_618 e_618 => ?_)
            obtain rfl : x_618 = nI (8 + uq) := e_618.trans (nI_add 8 uq)
            refine lv_iload hx hb dL_law_619 (lv_at hl 0 rfl) ?_
            refine k_ist (ad := ad) (k := 17) (i := 0) Z X ct_17_0 (vp_in_nI (n := (8 + uq)) (by first | assumption | omega) (by decide)) dL_law_621 (fun H locs X => ?_)
            have X : kX E G s H locs ad (cto G S (sI T 1 (8 + uq) (vEnds S (nI hq - 1))) o ad) := X.eq (st_17 (a := 0) (by decide) (8 + uq) _ (by omega))
            refine lv_aload_n hx hb dL_law_622 rfl (lv_at hl 4 rfl) ?_
            refine lv_iconst (v := 2) hx hb dL_law_623 (by decide) ?_
            refine lv_iload hx hb dL_law_624 (lv_at hl 21 rfl) ?_
            refine lv_iload hx hb dL_law_626 (lv_at hl 2 rfl) ?_
            refine lv_iconst (v := 0) hx hb dL_law_628 (by decide) ?_
            refine lv_iconst (v := 0) hx hb dL_law_629 (by decide) ?_
            refine k_xRi X (k_xrunSW (As := [.ref (ad 0 0), .int 2, .int (nI uq), .int (nI hq - 1), .int 0, .int 0]) (rest := []) Z X (c_L_does_2 l E G S (sI T 1 (8 + uq) (vEnds S (nI hq - 1))) o ad (nI uq) (nI hq - 1) 0 0 hE hS hL hK9) (k_cwSW 6 Z.1.2.2.2.2 (inU_6 _ (List.mem_of_getElem? (i := 3) rfl)) (inU_6 _ (List.mem_of_getElem? (i := 4) rfl)) (inU_6 _ (List.mem_of_getElem? (i := 5) rfl)) (inU_6 _ (List.mem_of_getElem? (i := 6) rfl)) rfl rfl (by decide +kernel) ⟨(Nat.le_of_ble_eq_true rfl), (Nat.le_of_ble_eq_true rfl)⟩) rfl hl.1 rfl (Nat.le_of_ble_eq_true rfl) dL_law_630 ⟨(by first | exact rm_c (by omega) | exact rm_s (by omega)), (by first | exact rm_c (by omega) | exact rm_s (by omega))⟩) (fun _ _ _ _ _ _ _ hp => hp.elim) (fun r_630 ad1 ct1 H locs hp X => ?_)
            have hC : cEnds S (nI uq) (nI hq - 1) = 0 := by rw [cEnds_v (by omega) (by omega), if_pos hu1, if_pos hr4]
            obtain ⟨ha_, hq⟩ := hp
            rcases hq with ⟨z, hr_, S1, hS1, hb_⟩ | ⟨z, -⟩ | ⟨z, -⟩ | ⟨z, -⟩
            case inr.inl => exact absurd (hC.symm.trans z) (by decide)
            case inr.inr.inl => exact absurd (hC.symm.trans z) (by decide)
            case inr.inr.inr => exact absurd (hC.symm.trans z) (by decide)
            subst hr_
            rw [hb_, ← ha_, show S1 = (oEnds S (kdS S) (nI uq) (nI hq - 1)) from hS1] at X
            refine lv_iload hx hb dL_law_633 (lv_at hl 22 rfl) ?_
            refine lv_if_ne (tgt := 643) hx hb dL_law_635 (by decide) (fun c_635 => ?_) (fun c_635 => ?_)
            · refine lv_iload hx hb dL_law_643 (lv_at hl 1 rfl) ?_
              refine lv_if_eq (tgt := 653) hx hb dL_law_645 (by decide) (fun c_645 => ?_) (fun c_645 => ?_)
              · exact absurd c_645 (by decide)
              · refine lv_iload hx hb dL_law_648 (lv_at hl 0 rfl) ?_
                refine lv_goto (tgt := 655) hx hb dL_law_650 (by decide) ?_
                refine lv_icmp_ne (tgt := 662) hx hb dL_law_655 (by decide) (fun c_655 => ?_) (fun c_655 => ?_)
                · exact absurd rfl c_655
                · refine lv_iconst (v := 1) hx hb dL_law_658 (by decide) ?_
                  refine lv_goto (tgt := 663) hx hb dL_law_659 (by decide) ?_
                  refine lv_istore (lv' := [(13, .int 1), (22, .int (vEnds S (nI hq - 1))), (21, .int (bI true)), (20, .int (nI hq - 1)), (0, .ref b), (1, .ref (ad 0 0)), (2, .ref (ad 17 0)), (3, .ref (ad 17 1)), (4, .ref (ad 17 2)), (5, .ref (ad 17 3)), (6, .ref (ad 17 4)), (7, .ref (ad 17 5)), (8, .ref (ad 17 6)), (9, .ref (ad 17 7)), (10, .ref (ad 17 8)), (11, .ref (ad 17 9)), (12, .ref (ad 17 10)), (14, .int (nI i)), (15, .int (nI wq)), (16, .int (nI x1)), (17, .int (nI x2)), (18, .int (nI uq)), (19, .int (bI true))]) hx hb dL_law_663 hl (by decide) rfl (fun ls hl => ?_)
                  refine lv_goto (tgt := 1231) hx hb dL_law_665 (by decide) ?_
                  refine W.widen (k := 1100 * i + 240) (n := 8000 * i + 10000) (by omega) (by omega) ?_
                  exact K _ _ _ _ _ _ (Mid.ends hI hu1 (vEnds_pm ehr hhr hhq)) X (lv_sub hl [4, 5, 6, 7, 8, 9, 10, 11, 12, 13, 14, 15, 16, 0, 17, 19] rfl)
            · exact absurd c_635 (by decide)
      refine lv_iload hx hb dL_law_585 (lv_at hl 1 rfl) ?_
      refine lv_if_ge (tgt := 594) hx hb dL_law_587 (by decide) (fun c_587 => ?_) (fun c_587 => ?_)
      · have c_587 : 1 ≤ hq := (m1_ge (p := hq) (n := 0) (by omega) (by omega)).mp c_587
        refine lv_aload hx hb dL_law_594 (lv_at hl 14 rfl) ?_
        refine lv_iconst (v := 0) hx hb dL_law_596 (by decide) ?_
        refine k_ild (ad := ad) (k := 17) (i := 10) Z X ct_17_10 (vp_in_nI (n := 0) (by first | assumption | omega) (by decide)) dL_law_597 ?_
        refine lv_topi (fun x_597 e_597 => ?_)
        obtain rfl : x_597 = T.1 11 0 := e_597.trans (by first | (simp only [nI_clamp (show 0 < 2 ^ 31 by omega)]; done) | rfl | (simp only [nI_clamp (show 0 < 2 ^ 31 by omega)]; rfl) | (simp only [nI_clamp (show 0 < 2 ^ 31 by omega)]; simp [sI, sN]; done))
        refine lv_topi (fun x_597 e_597 => ?_)
        obtain rfl : x_597 = S.1 0 0 := e_597.trans (hT.g0)
        refine lv_iload hx hb dL_law_598 (lv_at hl 1 rfl) ?_
        refine lv_iadd hx hb dL_law_600 ?_
        exact W.eq (congrArg (fun z => F0 m 601 ls (.int z :: [])) (by rw [vEnds, if_neg (fun z => absurd ((m1_m1 (by omega)).mp z) (by omega))])) (M_601 _ _ X)
      · have c_587 : ¬ 1 ≤ hq := fun z => c_587 ((m1_ge (p := hq) (n := 0) (by omega) (by omega)).mpr z)
        refine lv_iconst (v := (-1)) hx hb dL_law_590 (by decide) ?_
        refine lv_goto (tgt := 601) hx hb dL_law_591 (by decide) ?_
        exact W.eq (congrArg (fun z => F0 m 601 ls (.int z :: [])) (by rw [vEnds, if_pos ((m1_m1 (by omega)).mpr (show hq = 0 by omega))])) (M_601 _ _ X)
    refine lv_iload hx hb dL_law_570 (lv_at hl 0 rfl) ?_
    refine lv_sipush (v := 10001) hx hb dL_law_572 (by decide) ?_
    refine lv_icmp_ge (tgt := 582) hx hb dL_law_575 (by decide) (fun c_575 => ?_) (fun c_575 => ?_)
    · have c_575 : 10002 ≤ hq := (m1_ge (p := hq) (n := 10001) (by omega) (by omega)).mp c_575
      refine lv_iconst (v := 0) hx hb dL_law_582 (by decide) ?_
      exact W.eq (congrArg (fun z => F0 m 583 ls (.int z :: [])) (bI_f (decide_eq_false (by omega)))) (M_583 _ _ X)
    · have c_575 : ¬ 10002 ≤ hq := fun z => c_575 ((m1_ge (p := hq) (n := 10001) (by omega) (by omega)).mpr z)
      refine lv_iconst (v := 1) hx hb dL_law_578 (by decide) ?_
      refine lv_goto (tgt := 583) hx hb dL_law_579 (by decide) ?_
      exact W.eq (congrArg (fun z => F0 m 583 ls (.int z :: [])) (bI_t (decide_eq_true (by omega)))) (M_583 _ _ X)
  refine lv_iload hx hb dL_law_531 (lv_at hl 17 rfl) ?_
  refine lv_iconst (v := 4) hx hb dL_law_533 (by decide) ?_
  refine lv_irem hx hb dL_law_534 (by decide) ?_
  refine lv_topi (fun x_534 e_534 => ?_)
  obtain rfl : x_534 = nI (x2 % 4) := e_534.trans ((pk_rem (a := x2) (d := 4) (by omega) (by omega) (by omega)))
  refine lv_if_ne (tgt := 542) hx hb dL_law_535 (by decide) (fun c_535 => ?_) (fun c_535 => ?_)
  · have c_535 : ¬ x2 % 4 = 0 := fun h => c_535 ((nI_eq (a := x2 % 4) (b := 0) (by omega) (by omega)).mpr h)
    refine lv_iload hx hb dL_law_542 (lv_at hl 17 rfl) ?_
    refine lv_iconst (v := 4) hx hb dL_law_544 (by decide) ?_
    refine lv_irem hx hb dL_law_545 (by decide) ?_
    refine lv_topi (fun x_545 e_545 => ?_)
    obtain rfl : x_545 = nI (x2 % 4) := e_545.trans ((pk_rem (a := x2) (d := 4) (by omega) (by omega) (by omega)))
    refine lv_iconst (v := 1) hx hb dL_law_546 (by decide) ?_
    refine lv_icmp_ne (tgt := 561) hx hb dL_law_547 (by decide) (fun c_547 => ?_) (fun c_547 => ?_)
    · have c_547 : ¬ x2 % 4 = 1 := fun h => c_547 ((nI_eq (a := x2 % 4) (b := 1) (by omega) (by omega)).mpr h)
      refine lv_iload hx hb dL_law_561 (lv_at hl 17 rfl) ?_
      refine lv_iconst (v := 4) hx hb dL_law_563 (by decide) ?_
      refine lv_idiv hx hb dL_law_564 (by decide) ?_
      refine lv_topi (fun x_564 e_564 => ?_)
      obtain rfl : x_564 = nI (x2 / 4) := e_564.trans ((pk_div (a := x2) (d := 4) (by omega) (by omega) (by omega)))
      refine lv_bipush (v := 6) hx hb dL_law_565 (by decide) ?_
      refine lv_irem hx hb dL_law_567 (by decide) ?_
      refine lv_topi (fun x_567 e_567 => ?_)
      obtain rfl : x_567 = nI ((x2 / 4) % 6) := e_567.trans ((pk_rem (a := (x2 / 4)) (d := 6) (by omega) (by omega) (by omega)))
      exact W.eq (congrArg (fun z => F0 m 568 ls (.int z :: [])) ((by rw [ehq]; unfold hoE; (first | rw [if_pos (show x2 % 4 = 0 by omega)] | rw [if_neg (show ¬ x2 % 4 = 0 by omega), if_pos (show x2 % 4 = 1 by omega)] | rw [if_neg (show ¬ x2 % 4 = 0 by omega), if_neg (show ¬ x2 % 4 = 1 by omega)]) <;> first | rfl | exact m1_s _ | exact (m1_s _).symm | decide))) (M_568 _ _ X)
    · have c_547 : x2 % 4 = 1 := (nI_eq (a := x2 % 4) (b := 1) (by omega) (by omega)).mp c_547
      refine lv_iload hx hb dL_law_550 (lv_at hl 17 rfl) ?_
      refine lv_iconst (v := 4) hx hb dL_law_552 (by decide) ?_
      refine lv_idiv hx hb dL_law_553 (by decide) ?_
      refine lv_topi (fun x_553 e_553 => ?_)
      obtain rfl : x_553 = nI (x2 / 4) := e_553.trans ((pk_div (a := x2) (d := 4) (by omega) (by omega) (by omega)))
      refine lv_sipush (v := 10002) hx hb dL_law_554 (by decide) ?_
      refine lv_irem hx hb dL_law_557 (by decide) ?_
      refine lv_topi (fun x_557 e_557 => ?_)
      obtain rfl : x_557 = nI ((x2 / 4) % 10002) := e_557.trans ((pk_rem (a := (x2 / 4)) (d := 10002) (by omega) (by omega) (by omega)))
      refine lv_goto (tgt := 568) hx hb dL_law_558 (by decide) ?_
      exact W.eq (congrArg (fun z => F0 m 568 ls (.int z :: [])) ((by rw [ehq]; unfold hoE; (first | rw [if_pos (show x2 % 4 = 0 by omega)] | rw [if_neg (show ¬ x2 % 4 = 0 by omega), if_pos (show x2 % 4 = 1 by omega)] | rw [if_neg (show ¬ x2 % 4 = 0 by omega), if_neg (show ¬ x2 % 4 = 1 by omega)]) <;> first | rfl | exact m1_s _ | exact (m1_s _).symm | decide))) (M_568 _ _ X)
  · have c_535 : x2 % 4 = 0 := (nI_eq (a := x2 % 4) (b := 0) (by omega) (by omega)).mp c_535
    refine lv_iconst (v := (-1)) hx hb dL_law_538 (by decide) ?_
    refine lv_goto (tgt := 568) hx hb dL_law_539 (by decide) ?_
    exact W.eq (congrArg (fun z => F0 m 568 ls (.int z :: [])) ((by rw [ehq]; unfold hoE; (first | rw [if_pos (show x2 % 4 = 0 by omega)] | rw [if_neg (show ¬ x2 % 4 = 0 by omega), if_pos (show x2 % 4 = 1 by omega)] | rw [if_neg (show ¬ x2 % 4 = 0 by omega), if_neg (show ¬ x2 % 4 = 1 by omega)]) <;> first | rfl | exact m1_s _ | exact (m1_s _).symm | decide))) (M_568 _ _ X)
