/-! THE LAW'S isSpend: a task -/
set_option maxHeartbeats 4000000 in
set_option maxRecDepth 100000 in
theorem t_isSp_t {p : Program} {l : Launch} {e : Env} {s : State} {m : MethodId} {below : List Frame} {meth : Method} {c : Code} {E : State} {G : kG} {S T : kSt} {o : Int64} {ad : kAd} {n9 x1 x2 uq aq : Nat} {w : Int32} (hw : w < 2) (hE : kE l E G) (hn9 : n9 ≤ 90) (hx1 : x1 < 60000) (hx2 : x2 < 60000) (hI : Iv n9 S T) (huq : uq ≤ S.2 0 0) (haq : aq ≤ S.2 0 1) (Z : kZ p m c cL_isSpend 22 s ([.ref (ad 0 0), .ref (ad 17 0), .ref (ad 17 1), .ref (ad 17 2), .ref (ad 17 4), .ref (ad 17 5), .ref (ad 17 6), .ref (ad 17 7), .ref (ad 17 8), .ref (ad 17 9), .ref (ad 17 10), .int w, .int (nI x1), .int (nI x2)] : List Value).toArray wsL_law RL E G) (hr : meth.sig.returnType = some .boolean) (hlocks : meth.locks = false) : ∀ (H : Heap) (locs : List Loc) (ls : Array Slot), kX E G s H locs ad (cto G S T o ad) → lv_has ls 22 [(0, .ref (ad 0 0)), (1, .ref (ad 17 0)), (2, .ref (ad 17 1)), (3, .ref (ad 17 2)), (4, .ref (ad 17 4)), (5, .ref (ad 17 5)), (6, .ref (ad 17 6)), (7, .ref (ad 17 7)), (8, .ref (ad 17 8)), (9, .ref (ad 17 9)), (10, .ref (ad 17 10)), (11, .int w), (12, .int (nI x1)), (13, .int (nI x2)), (14, .int (nI uq)), (15, .int (nI aq)), (16, .int (bI (decide (uq < S.2 0 0)))), (17, .int (bI (arM S uq aq))), (18, .int (bI (caM S uq aq)))] → W p l e (headSpec (Cond.code yL_isSpend cL_isSpend 22 (some .boolean) :: wsL_law) ({ frames := 18, cells := 20, slots := 400, locals := 500 } : Room)).room s m ([.ref (ad 0 0), .ref (ad 17 0), .ref (ad 17 1), .ref (ad 17 2), .ref (ad 17 4), .ref (ad 17 5), .ref (ad 17 6), .ref (ad 17 7), .ref (ad 17 8), .ref (ad 17 9), .ref (ad 17 10), .int w, .int (nI x1), .int (nI x2)] : List Value).toArray below meth c H locs 0 0 (vx_MQ below (kQi E G (fun r ad1 ct1 => (r = 1 ∧ AK ad ad1) ∧ ∃ S1 A1, ct1 = cto G S1 A1 o ad1 ∧ Mid (n9 + 1) S1 A1)) (kXC E G (fun _ _ _ => False)) ([.ref (ad 0 0), .ref (ad 17 0), .ref (ad 17 1), .ref (ad 17 2), .ref (ad 17 4), .ref (ad 17 5), .ref (ad 17 6), .ref (ad 17 7), .ref (ad 17 8), .ref (ad 17 9), .ref (ad 17 10), .int w, .int (nI x1), .int (nI x2)] : List Value).toArray s 20 400 (kB E.heap.size)) (F0 m 350 ls []) := by
  intro H locs ls X hl
  have hx := Z.1.1
  have hb := Z.1.2.1
  have hT := hI.lt
  obtain ⟨hS, hL, hK9, hLg, hRp, hlog9, hB⟩ := hI.1.ok
  have hN := hS
  have hlog : S.2 0 4 < 512 := by omega
  obtain ⟨hc0, hc1, hc2, hc3⟩ := hT.c
  have hvq := hB.2.1
  have hh0 : ∃ h, h ≤ 512000 ∧ S.1 0 0 = nI h := by obtain ⟨⟨hz, h1z, h2z⟩, -⟩ := hB; exact ⟨hz, by omega, h2z⟩
  have hvr : ∀ j, ∃ v, v ≤ 512 ∧ S.1 7 j = nI v := fun j => by obtain ⟨vz, v1z, v2z⟩ := hvq j; exact ⟨vz, by omega, v2z⟩
  refine lv_iload hx hb dL_isSpend_350 (lv_at hl 11 rfl) ?_
  refine lv_iconst (v := 2) hx hb dL_isSpend_352 (by decide) ?_
  refine lv_icmp_ge (tgt := 579) hx hb dL_isSpend_353 (by decide) (fun c_353 => ?_) (fun c_353 => ?_)
  · exact absurd hw (Int32.not_lt.mpr c_353)
  · refine lv_aload hx hb dL_isSpend_356 (lv_at hl 10 rfl) ?_
    refine lv_iconst (v := 4) hx hb dL_isSpend_358 (by decide) ?_
    refine k_ild (ad := ad) (k := 17) (i := 10) Z X ct_17_10 (vp_in_nI (n := 4) (by first | assumption | omega) (by decide)) dL_isSpend_359 ?_
    refine lv_topi (fun x_359 e_359 => ?_)
    obtain rfl : x_359 = T.1 11 4 := e_359.trans (by first | (simp only [nI_clamp (show 4 < 2 ^ 31 by omega)]; done) | rfl | (simp only [nI_clamp (show 4 < 2 ^ 31 by omega)]; rfl) | (simp only [nI_clamp (show 4 < 2 ^ 31 by omega)]; simp [sI, sN]; done))
    refine lv_topi (fun x_359 e_359 => ?_)
    obtain rfl : x_359 = nI (S.2 0 3) := e_359.trans (hT.g4)
    refine lv_bipush (v := 30) hx hb dL_isSpend_360 (by decide) ?_
    refine lv_icmp_ge (tgt := 579) hx hb dL_isSpend_362 (by decide) (fun c_362 => ?_) (fun c_362 => ?_)
    · have c_362 : 30 ≤ S.2 0 3 := (nI_leI (a := 30) (b := S.2 0 3) (by omega) (by omega)).mp c_362
      refine W.widen (k := 0) (n := 0) (by omega) (by omega) ?_
      exact t_isSp_d hE hn9 hx1 hx2 hI huq haq Z hr hlocks _ _ _ X (lv_sub hl [0, 1, 2, 3, 4, 5, 6, 7, 8, 9, 10, 11, 12, 13, 14, 15, 16, 17, 18] rfl)
    · have c_362 : ¬ 30 ≤ S.2 0 3 := fun h => c_362 ((nI_leI (a := 30) (b := S.2 0 3) (by omega) (by omega)).mpr h)
      obtain ⟨wq, ewq⟩ : ∃ y, y = x1 / 13 % (S.2 0 0 + 1) := ⟨_, rfl⟩
      have hwq : wq ≤ S.2 0 0 := by rw [ewq]; exact Nat.le_of_lt_succ (Nat.mod_lt _ (by omega))
      have hhq := hoq_lt x2
      refine lv_iload hx hb dL_isSpend_365 (lv_at hl 12 rfl) ?_
      refine lv_bipush (v := 13) hx hb dL_isSpend_367 (by decide) ?_
      refine lv_idiv hx hb dL_isSpend_369 (by decide) ?_
      refine lv_topi (fun x_369 e_369 => ?_)
      obtain rfl : x_369 = nI (x1 / 13) := e_369.trans ((pk_div (a := x1) (d := 13) (by omega) (by omega) (by omega)))
      refine lv_aload hx hb dL_isSpend_370 (lv_at hl 10 rfl) ?_
      refine lv_iconst (v := 1) hx hb dL_isSpend_372 (by decide) ?_
      refine k_ild (ad := ad) (k := 17) (i := 10) Z X ct_17_10 (vp_in_nI (n := 1) (by first | assumption | omega) (by decide)) dL_isSpend_373 ?_
      refine lv_topi (fun x_373 e_373 => ?_)
      obtain rfl : x_373 = T.1 11 1 := e_373.trans (by first | (simp only [nI_clamp (show 1 < 2 ^ 31 by omega)]; done) | rfl | (simp only [nI_clamp (show 1 < 2 ^ 31 by omega)]; rfl) | (simp only [nI_clamp (show 1 < 2 ^ 31 by omega)]; simp [sI, sN]; done))
      refine lv_topi (fun x_373 e_373 => ?_)
      obtain rfl : x_373 = nI (S.2 0 0) := e_373.trans (hT.g1)
      refine lv_iconst (v := 1) hx hb dL_isSpend_374 (by decide) ?_
      refine lv_iadd hx hb dL_isSpend_375 ?_
      refine lv_topi (fun x_375 e_375 => ?_)
      obtain rfl : x_375 = nI ((S.2 0 0) + 1) := e_375.trans (nI_add (S.2 0 0) 1)
      refine lv_irem hx hb dL_isSpend_376 (nI_ne0 (by omega) (by omega)) ?_
      refine lv_topi (fun x_376 e_376 => ?_)
      obtain rfl : x_376 = nI wq := e_376.trans ((pk_rem (a := (x1 / 13)) (d := ((S.2 0 0) + 1)) (by omega) (by omega) (by omega)).trans (congrArg nI ewq.symm))
      refine lv_istore (lv' := [(19, .int (nI wq)), (0, .ref (ad 0 0)), (1, .ref (ad 17 0)), (2, .ref (ad 17 1)), (3, .ref (ad 17 2)), (4, .ref (ad 17 4)), (5, .ref (ad 17 5)), (6, .ref (ad 17 6)), (7, .ref (ad 17 7)), (8, .ref (ad 17 8)), (9, .ref (ad 17 9)), (10, .ref (ad 17 10)), (11, .int w), (12, .int (nI x1)), (13, .int (nI x2)), (14, .int (nI uq)), (15, .int (nI aq)), (16, .int (bI (decide (uq < S.2 0 0)))), (17, .int (bI (arM S uq aq))), (18, .int (bI (caM S uq aq)))]) hx hb dL_isSpend_377 hl (by decide) rfl (fun ls hl => ?_)
      have M_409 : ∀ (H : Heap) (locs : List Loc), kX E G s H locs ad (cto G S T o ad) → W p l e (headSpec (Cond.code yL_isSpend cL_isSpend 22 (some .boolean) :: wsL_law) ({ frames := 18, cells := 20, slots := 400, locals := 500 } : Room)).room s m ([.ref (ad 0 0), .ref (ad 17 0), .ref (ad 17 1), .ref (ad 17 2), .ref (ad 17 4), .ref (ad 17 5), .ref (ad 17 6), .ref (ad 17 7), .ref (ad 17 8), .ref (ad 17 9), .ref (ad 17 10), .int w, .int (nI x1), .int (nI x2)] : List Value).toArray below meth c H locs 0 0 (vx_MQ below (kQi E G (fun r ad1 ct1 => (r = 1 ∧ AK ad ad1) ∧ ∃ S1 A1, ct1 = cto G S1 A1 o ad1 ∧ Mid (n9 + 1) S1 A1)) (kXC E G (fun _ _ _ => False)) ([.ref (ad 0 0), .ref (ad 17 0), .ref (ad 17 1), .ref (ad 17 2), .ref (ad 17 4), .ref (ad 17 5), .ref (ad 17 6), .ref (ad 17 7), .ref (ad 17 8), .ref (ad 17 9), .ref (ad 17 10), .int w, .int (nI x1), .int (nI x2)] : List Value).toArray s 20 400 (kB E.heap.size)) (F0 m 409 ls [.int (nI (hoq x2))]) := by
        intro H locs X
        refine lv_istore (lv' := [(20, .int (nI (hoq x2))), (19, .int (nI wq)), (0, .ref (ad 0 0)), (1, .ref (ad 17 0)), (2, .ref (ad 17 1)), (3, .ref (ad 17 2)), (4, .ref (ad 17 4)), (5, .ref (ad 17 5)), (6, .ref (ad 17 6)), (7, .ref (ad 17 7)), (8, .ref (ad 17 8)), (9, .ref (ad 17 9)), (10, .ref (ad 17 10)), (11, .int w), (12, .int (nI x1)), (13, .int (nI x2)), (14, .int (nI uq)), (15, .int (nI aq)), (16, .int (bI (decide (uq < S.2 0 0)))), (17, .int (bI (arM S uq aq))), (18, .int (bI (caM S uq aq)))]) hx hb dL_isSpend_409 hl (by decide) rfl (fun ls hl => ?_)
        have M_424 : ∀ (H : Heap) (locs : List Loc), kX E G s H locs ad (cto G S T o ad) → W p l e (headSpec (Cond.code yL_isSpend cL_isSpend 22 (some .boolean) :: wsL_law) ({ frames := 18, cells := 20, slots := 400, locals := 500 } : Room)).room s m ([.ref (ad 0 0), .ref (ad 17 0), .ref (ad 17 1), .ref (ad 17 2), .ref (ad 17 4), .ref (ad 17 5), .ref (ad 17 6), .ref (ad 17 7), .ref (ad 17 8), .ref (ad 17 9), .ref (ad 17 10), .int w, .int (nI x1), .int (nI x2)] : List Value).toArray below meth c H locs 0 0 (vx_MQ below (kQi E G (fun r ad1 ct1 => (r = 1 ∧ AK ad ad1) ∧ ∃ S1 A1, ct1 = cto G S1 A1 o ad1 ∧ Mid (n9 + 1) S1 A1)) (kXC E G (fun _ _ _ => False)) ([.ref (ad 0 0), .ref (ad 17 0), .ref (ad 17 1), .ref (ad 17 2), .ref (ad 17 4), .ref (ad 17 5), .ref (ad 17 6), .ref (ad 17 7), .ref (ad 17 8), .ref (ad 17 9), .ref (ad 17 10), .int w, .int (nI x1), .int (nI x2)] : List Value).toArray s 20 400 (kB E.heap.size)) (F0 m 424 ls [.int (bI (decide ((hoq x2) < 10001)))]) := by
          intro H locs X
          refine lv_istore (lv' := [(21, .int (bI (decide ((hoq x2) < 10001)))), (20, .int (nI (hoq x2))), (19, .int (nI wq)), (0, .ref (ad 0 0)), (1, .ref (ad 17 0)), (2, .ref (ad 17 1)), (3, .ref (ad 17 2)), (4, .ref (ad 17 4)), (5, .ref (ad 17 5)), (6, .ref (ad 17 6)), (7, .ref (ad 17 7)), (8, .ref (ad 17 8)), (9, .ref (ad 17 9)), (10, .ref (ad 17 10)), (11, .int w), (12, .int (nI x1)), (13, .int (nI x2)), (14, .int (nI uq)), (15, .int (nI aq)), (16, .int (bI (decide (uq < S.2 0 0)))), (17, .int (bI (arM S uq aq))), (18, .int (bI (caM S uq aq)))]) hx hb dL_isSpend_424 hl (by decide) rfl (fun ls hl => ?_)
          have M_445 : ∀ (H : Heap) (locs : List Loc), kX E G s H locs ad (cto G S T o ad) → W p l e (headSpec (Cond.code yL_isSpend cL_isSpend 22 (some .boolean) :: wsL_law) ({ frames := 18, cells := 20, slots := 400, locals := 500 } : Room)).room s m ([.ref (ad 0 0), .ref (ad 17 0), .ref (ad 17 1), .ref (ad 17 2), .ref (ad 17 4), .ref (ad 17 5), .ref (ad 17 6), .ref (ad 17 7), .ref (ad 17 8), .ref (ad 17 9), .ref (ad 17 10), .int w, .int (nI x1), .int (nI x2)] : List Value).toArray below meth c H locs 0 0 (vx_MQ below (kQi E G (fun r ad1 ct1 => (r = 1 ∧ AK ad ad1) ∧ ∃ S1 A1, ct1 = cto G S1 A1 o ad1 ∧ Mid (n9 + 1) S1 A1)) (kXC E G (fun _ _ _ => False)) ([.ref (ad 0 0), .ref (ad 17 0), .ref (ad 17 1), .ref (ad 17 2), .ref (ad 17 4), .ref (ad 17 5), .ref (ad 17 6), .ref (ad 17 7), .ref (ad 17 8), .ref (ad 17 9), .ref (ad 17 10), .int w, .int (nI x1), .int (nI x2)] : List Value).toArray s 20 400 (kB E.heap.size)) (F0 m 445 ls [.int (bI (arT S uq aq wq))]) := by
            intro H locs X
            refine lv_istore (lv' := [(17, .int (bI (arT S uq aq wq))), (21, .int (bI (decide ((hoq x2) < 10001)))), (20, .int (nI (hoq x2))), (19, .int (nI wq)), (0, .ref (ad 0 0)), (1, .ref (ad 17 0)), (2, .ref (ad 17 1)), (3, .ref (ad 17 2)), (4, .ref (ad 17 4)), (5, .ref (ad 17 5)), (6, .ref (ad 17 6)), (7, .ref (ad 17 7)), (8, .ref (ad 17 8)), (9, .ref (ad 17 9)), (10, .ref (ad 17 10)), (11, .int w), (12, .int (nI x1)), (13, .int (nI x2)), (14, .int (nI uq)), (15, .int (nI aq)), (16, .int (bI (decide (uq < S.2 0 0)))), (18, .int (bI (caM S uq aq)))]) hx hb dL_isSpend_445 hl (by decide) rfl (fun ls hl => ?_)
            have M_467 : ∀ (H : Heap) (locs : List Loc), kX E G s H locs ad (cto G S T o ad) → W p l e (headSpec (Cond.code yL_isSpend cL_isSpend 22 (some .boolean) :: wsL_law) ({ frames := 18, cells := 20, slots := 400, locals := 500 } : Room)).room s m ([.ref (ad 0 0), .ref (ad 17 0), .ref (ad 17 1), .ref (ad 17 2), .ref (ad 17 4), .ref (ad 17 5), .ref (ad 17 6), .ref (ad 17 7), .ref (ad 17 8), .ref (ad 17 9), .ref (ad 17 10), .int w, .int (nI x1), .int (nI x2)] : List Value).toArray below meth c H locs 0 0 (vx_MQ below (kQi E G (fun r ad1 ct1 => (r = 1 ∧ AK ad ad1) ∧ ∃ S1 A1, ct1 = cto G S1 A1 o ad1 ∧ Mid (n9 + 1) S1 A1)) (kXC E G (fun _ _ _ => False)) ([.ref (ad 0 0), .ref (ad 17 0), .ref (ad 17 1), .ref (ad 17 2), .ref (ad 17 4), .ref (ad 17 5), .ref (ad 17 6), .ref (ad 17 7), .ref (ad 17 8), .ref (ad 17 9), .ref (ad 17 10), .int w, .int (nI x1), .int (nI x2)] : List Value).toArray s 20 400 (kB E.heap.size)) (F0 m 467 ls [.int (bI (caT S uq aq wq (hoq x2)))]) := by
              intro H locs X
              refine lv_istore (lv' := [(18, .int (bI (caT S uq aq wq (hoq x2)))), (17, .int (bI (arT S uq aq wq))), (21, .int (bI (decide ((hoq x2) < 10001)))), (20, .int (nI (hoq x2))), (19, .int (nI wq)), (0, .ref (ad 0 0)), (1, .ref (ad 17 0)), (2, .ref (ad 17 1)), (3, .ref (ad 17 2)), (4, .ref (ad 17 4)), (5, .ref (ad 17 5)), (6, .ref (ad 17 6)), (7, .ref (ad 17 7)), (8, .ref (ad 17 8)), (9, .ref (ad 17 9)), (10, .ref (ad 17 10)), (11, .int w), (12, .int (nI x1)), (13, .int (nI x2)), (14, .int (nI uq)), (15, .int (nI aq)), (16, .int (bI (decide (uq < S.2 0 0))))]) hx hb dL_isSpend_467 hl (by decide) rfl (fun ls hl => ?_)
              refine lv_iload hx hb dL_isSpend_469 (lv_at hl 0 rfl) ?_
              refine lv_if_eq (tgt := 520) hx hb dL_isSpend_471 (by decide) (fun c_471 => ?_) (fun c_471 => ?_)
              · have c_471 : (caT S uq aq wq (hoq x2)) = false := bI_0 c_471
                rw [c_471] at hl
                cases har : (arT S uq aq wq) with
                | false =>
                  rw [har] at hl
                  refine lv_aload_n hx hb dL_isSpend_520 rfl (lv_at hl 5 rfl) ?_
                  refine lv_bipush (v := 8) hx hb dL_isSpend_521 (by decide) ?_
                  refine lv_iload hx hb dL_isSpend_523 (lv_at hl 19 rfl) ?_
                  refine lv_iload hx hb dL_isSpend_525 (lv_at hl 20 rfl) ?_
                  refine lv_iload hx hb dL_isSpend_527 (lv_at hl 4 rfl) ?_
                  refine lv_iload hx hb dL_isSpend_529 (lv_at hl 3 rfl) ?_
                  refine k_xRi X (k_xrunSW (As := [.ref (ad 0 0), .int 8, .int (nI uq), .int (nI aq), .int (nI wq), .int (nI (hoq x2))]) (rest := []) Z X (c_L_does_8 l E G S T o ad (nI uq) (nI aq) (nI wq) (nI (hoq x2)) hE hS hL hh0 hvr) (k_cwSW 6 Z.1.2.2.2.2 (inU_6 _ (List.mem_of_getElem? (i := 3) rfl)) (inU_6 _ (List.mem_of_getElem? (i := 4) rfl)) (inU_6 _ (List.mem_of_getElem? (i := 5) rfl)) (inU_6 _ (List.mem_of_getElem? (i := 6) rfl)) rfl rfl (by decide +kernel) ⟨(Nat.le_of_ble_eq_true rfl), (Nat.le_of_ble_eq_true rfl)⟩) rfl hl.1 rfl (Nat.le_of_ble_eq_true rfl) dL_isSpend_531 ⟨(Nat.le_of_ble_eq_true rfl), (Nat.le_of_ble_eq_true rfl)⟩) (fun _ _ _ _ _ _ _ hp => hp.elim) (fun r_531 ad1 ct1 H locs hp X => ?_)
                  have hC : cTask S (nI uq) (nI aq) (nI wq) (nI (hoq x2)) = 1 := by rw [cTask_v (by omega) (by omega) (by omega) (by omega) (by omega), har]; rfl
                  obtain ⟨hAK, hq⟩ := hp
                  rcases hq with ⟨z, -⟩ | ⟨z, hr_, hb_⟩ | ⟨z, -⟩ | ⟨z, -⟩
                  case inl => exact absurd (hC.symm.trans z) (by decide)
                  case inr.inr.inl => exact absurd (hC.symm.trans z) (by decide)
                  case inr.inr.inr => exact absurd (hC.symm.trans z) (by decide)
                  subst hr_
                  rw [hb_] at X
                  rw [← hAK.2.2 10] at hl
                  refine lv_iload hx hb dL_isSpend_534 (lv_at hl 1 rfl) ?_
                  refine lv_if_ne (tgt := 544) hx hb dL_isSpend_536 (by decide) (fun c_536 => ?_) (fun c_536 => ?_)
                  · exact absurd c_536 (by decide)
                  · refine lv_ldc (v := (-3000000)) hx hb Z.1.2.2.2.1 (Z.1.2.2.2.2 _ (inU_1 _ (List.mem_of_getElem? (i := 5) rfl))) dL_isSpend_539 ?_
                    refine lv_goto (tgt := 570) hx hb dL_isSpend_541 (by decide) ?_
                    refine lv_icmp_ne (tgt := 577) hx hb dL_isSpend_570 (by decide) (fun c_570 => ?_) (fun c_570 => ?_)
                    · exact absurd rfl c_570
                    · refine lv_iconst (v := 1) hx hb dL_isSpend_573 (by decide) ?_
                      refine lv_goto (tgt := 578) hx hb dL_isSpend_574 (by decide) ?_
                      exact vx_ret (k_iret Z X hr hlocks rfl (by omega) (by omega) dL_isSpend_578 ⟨⟨rfl, hAK⟩, S, T, rfl, hI.mid (by omega)⟩)
                | true =>
                  rw [har] at hl
                  cases hr9 : decide ((hoq x2) < 10001) with
                  | false =>
                    rw [hr9] at hl
                    refine lv_aload_n hx hb dL_isSpend_520 rfl (lv_at hl 5 rfl) ?_
                    refine lv_bipush (v := 8) hx hb dL_isSpend_521 (by decide) ?_
                    refine lv_iload hx hb dL_isSpend_523 (lv_at hl 19 rfl) ?_
                    refine lv_iload hx hb dL_isSpend_525 (lv_at hl 20 rfl) ?_
                    refine lv_iload hx hb dL_isSpend_527 (lv_at hl 4 rfl) ?_
                    refine lv_iload hx hb dL_isSpend_529 (lv_at hl 3 rfl) ?_
                    refine k_xRi X (k_xrunSW (As := [.ref (ad 0 0), .int 8, .int (nI uq), .int (nI aq), .int (nI wq), .int (nI (hoq x2))]) (rest := []) Z X (c_L_does_8 l E G S T o ad (nI uq) (nI aq) (nI wq) (nI (hoq x2)) hE hS hL hh0 hvr) (k_cwSW 6 Z.1.2.2.2.2 (inU_6 _ (List.mem_of_getElem? (i := 3) rfl)) (inU_6 _ (List.mem_of_getElem? (i := 4) rfl)) (inU_6 _ (List.mem_of_getElem? (i := 5) rfl)) (inU_6 _ (List.mem_of_getElem? (i := 6) rfl)) rfl rfl (by decide +kernel) ⟨(Nat.le_of_ble_eq_true rfl), (Nat.le_of_ble_eq_true rfl)⟩) rfl hl.1 rfl (Nat.le_of_ble_eq_true rfl) dL_isSpend_531 ⟨(Nat.le_of_ble_eq_true rfl), (Nat.le_of_ble_eq_true rfl)⟩) (fun _ _ _ _ _ _ _ hp => hp.elim) (fun r_531 ad1 ct1 H locs hp X => ?_)
                    have hC : cTask S (nI uq) (nI aq) (nI wq) (nI (hoq x2)) = 2 := by rw [cTask_v (by omega) (by omega) (by omega) (by omega) (by omega), har, if_neg (of_decide_eq_false hr9)]; rfl
                    obtain ⟨hAK, hq⟩ := hp
                    rcases hq with ⟨z, -⟩ | ⟨z, -⟩ | ⟨z, hr_, hb_⟩ | ⟨z, -⟩
                    case inl => exact absurd (hC.symm.trans z) (by decide)
                    case inr.inl => exact absurd (hC.symm.trans z) (by decide)
                    case inr.inr.inr => exact absurd (hC.symm.trans z) (by decide)
                    subst hr_
                    rw [hb_] at X
                    rw [← hAK.2.2 10] at hl
                    refine lv_iload hx hb dL_isSpend_534 (lv_at hl 1 rfl) ?_
                    refine lv_if_ne (tgt := 544) hx hb dL_isSpend_536 (by decide) (fun c_536 => ?_) (fun c_536 => ?_)
                    · refine lv_iload hx hb dL_isSpend_544 (lv_at hl 2 rfl) ?_
                      refine lv_if_ne (tgt := 554) hx hb dL_isSpend_546 (by decide) (fun c_546 => ?_) (fun c_546 => ?_)
                      · exact absurd c_546 (by decide)
                      · refine lv_ldc (v := (-2000000)) hx hb Z.1.2.2.2.1 (Z.1.2.2.2.2 _ (inU_1 _ (List.mem_of_getElem? (i := 4) rfl))) dL_isSpend_549 ?_
                        refine lv_goto (tgt := 570) hx hb dL_isSpend_551 (by decide) ?_
                        refine lv_icmp_ne (tgt := 577) hx hb dL_isSpend_570 (by decide) (fun c_570 => ?_) (fun c_570 => ?_)
                        · exact absurd rfl c_570
                        · refine lv_iconst (v := 1) hx hb dL_isSpend_573 (by decide) ?_
                          refine lv_goto (tgt := 578) hx hb dL_isSpend_574 (by decide) ?_
                          exact vx_ret (k_iret Z X hr hlocks rfl (by omega) (by omega) dL_isSpend_578 ⟨⟨rfl, hAK⟩, S, T, rfl, hI.mid (by omega)⟩)
                    · exact absurd c_536 (by decide)
                  | true =>
                    rw [hr9] at hl
                    refine lv_aload_n hx hb dL_isSpend_520 rfl (lv_at hl 5 rfl) ?_
                    refine lv_bipush (v := 8) hx hb dL_isSpend_521 (by decide) ?_
                    refine lv_iload hx hb dL_isSpend_523 (lv_at hl 19 rfl) ?_
                    refine lv_iload hx hb dL_isSpend_525 (lv_at hl 20 rfl) ?_
                    refine lv_iload hx hb dL_isSpend_527 (lv_at hl 4 rfl) ?_
                    refine lv_iload hx hb dL_isSpend_529 (lv_at hl 3 rfl) ?_
                    refine k_xRi X (k_xrunSW (As := [.ref (ad 0 0), .int 8, .int (nI uq), .int (nI aq), .int (nI wq), .int (nI (hoq x2))]) (rest := []) Z X (c_L_does_8 l E G S T o ad (nI uq) (nI aq) (nI wq) (nI (hoq x2)) hE hS hL hh0 hvr) (k_cwSW 6 Z.1.2.2.2.2 (inU_6 _ (List.mem_of_getElem? (i := 3) rfl)) (inU_6 _ (List.mem_of_getElem? (i := 4) rfl)) (inU_6 _ (List.mem_of_getElem? (i := 5) rfl)) (inU_6 _ (List.mem_of_getElem? (i := 6) rfl)) rfl rfl (by decide +kernel) ⟨(Nat.le_of_ble_eq_true rfl), (Nat.le_of_ble_eq_true rfl)⟩) rfl hl.1 rfl (Nat.le_of_ble_eq_true rfl) dL_isSpend_531 ⟨(Nat.le_of_ble_eq_true rfl), (Nat.le_of_ble_eq_true rfl)⟩) (fun _ _ _ _ _ _ _ hp => hp.elim) (fun r_531 ad1 ct1 H locs hp X => ?_)
                    have hC : cTask S (nI uq) (nI aq) (nI wq) (nI (hoq x2)) = 3 := by rw [cTask_v (by omega) (by omega) (by omega) (by omega) (by omega), har, if_pos (of_decide_eq_true hr9), c_471]; rfl
                    obtain ⟨hAK, hq⟩ := hp
                    rcases hq with ⟨z, -⟩ | ⟨z, -⟩ | ⟨z, -⟩ | ⟨z, hr_, hb_⟩
                    case inl => exact absurd (hC.symm.trans z) (by decide)
                    case inr.inl => exact absurd (hC.symm.trans z) (by decide)
                    case inr.inr.inl => exact absurd (hC.symm.trans z) (by decide)
                    subst hr_
                    rw [hb_] at X
                    rw [← hAK.2.2 10] at hl
                    refine lv_iload hx hb dL_isSpend_534 (lv_at hl 1 rfl) ?_
                    refine lv_if_ne (tgt := 544) hx hb dL_isSpend_536 (by decide) (fun c_536 => ?_) (fun c_536 => ?_)
                    · refine lv_iload hx hb dL_isSpend_544 (lv_at hl 2 rfl) ?_
                      refine lv_if_ne (tgt := 554) hx hb dL_isSpend_546 (by decide) (fun c_546 => ?_) (fun c_546 => ?_)
                      · refine lv_iload hx hb dL_isSpend_554 (lv_at hl 0 rfl) ?_
                        refine lv_if_eq (tgt := 568) hx hb dL_isSpend_556 (by decide) (fun c_556 => ?_) (fun c_556 => ?_)
                        · refine lv_ldc (v := (-1000000)) hx hb Z.1.2.2.2.1 (Z.1.2.2.2.2 _ (inU_1 _ (List.mem_of_getElem? (i := 8) rfl))) dL_isSpend_568 ?_
                          refine lv_icmp_ne (tgt := 577) hx hb dL_isSpend_570 (by decide) (fun c_570 => ?_) (fun c_570 => ?_)
                          · exact absurd rfl c_570
                          · refine lv_iconst (v := 1) hx hb dL_isSpend_573 (by decide) ?_
                            refine lv_goto (tgt := 578) hx hb dL_isSpend_574 (by decide) ?_
                            exact vx_ret (k_iret Z X hr hlocks rfl (by omega) (by omega) dL_isSpend_578 ⟨⟨rfl, hAK⟩, S, T, rfl, hI.mid (by omega)⟩)
                        · exact absurd c_556 (by decide)
                      · exact absurd c_546 (by decide)
                    · exact absurd c_536 (by decide)
              · have c_471 : (caT S uq aq wq (hoq x2)) = true := bI_1 c_471
                have hct := c_471
                simp only [caT, Bool.and_eq_true] at hct
                have hcm := hct.1
                have hat := hct.2.1
                have hrt := hct.2.2
                simp only [caM, arM, Bool.and_eq_true, decide_eq_true_eq, Bool.not_eq_true'] at hcm
                obtain ⟨⟨hu1, ha1⟩, hg1, h81⟩ := hcm
                have hmm := hT.mm hN (j := aq) ha1
                have hmm1 := hmm.1
                have hau := hN.2.2.2.2.1 aq ha1
                have hw1 : wq < S.2 0 0 := by have z := hat; simp only [arT, Bool.and_eq_true, decide_eq_true_eq] at z; exact z.2
                rw [hat] at hl
                rw [hrt] at hl
                rw [c_471] at hl
                obtain ⟨vq, hvq1, hvq2⟩ := hvq aq
                refine lv_aload hx hb dL_isSpend_474 (lv_at hl 13 rfl) ?_
                refine lv_aload hx hb dL_isSpend_476 (lv_at hl 15 rfl) ?_
                refine lv_iconst (v := 4) hx hb dL_isSpend_478 (by decide) ?_
                refine k_ild (ad := ad) (k := 17) (i := 10) Z X ct_17_10 (vp_in_nI (n := 4) (by first | assumption | omega) (by decide)) dL_isSpend_479 ?_
                refine lv_topi (fun x_479 e_479 => ?_)
                obtain rfl : x_479 = T.1 11 4 := e_479.trans (by first | (simp only [nI_clamp (show 4 < 2 ^ 31 by omega)]; done) | rfl | (simp only [nI_clamp (show 4 < 2 ^ 31 by omega)]; rfl) | (simp only [nI_clamp (show 4 < 2 ^ 31 by omega)]; simp [sI, sN]; done))
                refine lv_topi (fun x_479 e_479 => ?_)
                obtain rfl : x_479 = nI (S.2 0 3) := e_479.trans (hT.g4)
                refine lv_iload hx hb dL_isSpend_480 (lv_at hl 20 rfl) ?_
                refine lv_bipush (v := 64) hx hb dL_isSpend_482 (by decide) ?_
                refine lv_aload_n hx hb dL_isSpend_484 rfl (lv_at hl 8 rfl) ?_
                refine lv_iload hx hb dL_isSpend_485 (lv_at hl 20 rfl) ?_
                refine k_ild (ad := ad) (k := 17) (i := 2) Z X ct_17_2 (vp_in_nI (n := aq) (by first | assumption | omega) (by decide)) dL_isSpend_487 ?_
                refine lv_topi (fun x_487 e_487 => ?_)
                obtain rfl : x_487 = T.1 3 aq := e_487.trans (by first | (simp only [nI_clamp (show aq < 2 ^ 31 by omega)]; done) | rfl | (simp only [nI_clamp (show aq < 2 ^ 31 by omega)]; rfl) | (simp only [nI_clamp (show aq < 2 ^ 31 by omega)]; simp [sI, sN]; done))
                refine lv_topi (fun x_487 e_487 => ?_)
                obtain rfl : x_487 = nI vq := e_487.trans ((hT.v ha1).trans hvq2)
                refine lv_imul hx hb dL_isSpend_488 ?_
                refine lv_topi (fun x_488 e_488 => ?_)
                obtain rfl : x_488 = nI (64 * vq) := e_488.trans (pk_mul 64 vq)
                refine lv_iadd hx hb dL_isSpend_489 ?_
                refine lv_topi (fun x_489 e_489 => ?_)
                obtain rfl : x_489 = nI (aq + (64 * vq)) := e_489.trans (nI_add aq (64 * vq))
                refine lv_sipush (v := 8192) hx hb dL_isSpend_490 (by decide) ?_
                refine lv_iload hx hb dL_isSpend_493 (lv_at hl 4 rfl) ?_
                refine lv_imul hx hb dL_isSpend_495 ?_
                refine lv_topi (fun x_495 e_495 => ?_)
                obtain rfl : x_495 = nI (8192 * wq) := e_495.trans (pk_mul 8192 wq)
                refine lv_iadd hx hb dL_isSpend_496 ?_
                refine lv_topi (fun x_496 e_496 => ?_)
                obtain rfl : x_496 = nI ((aq + (64 * vq)) + (8192 * wq)) := e_496.trans (nI_add (aq + (64 * vq)) (8192 * wq))
                refine k_ist (ad := ad) (k := 17) (i := 8) Z X ct_17_8 (vp_in_nI (n := (S.2 0 3)) (by first | assumption | omega) (by decide)) dL_isSpend_497 (fun H locs X => ?_)
                have X : kX E G s H locs ad (cto G S (sI T 9 (S.2 0 3) (nI ((aq + (64 * vq)) + (8192 * wq)))) o ad) := X.eq (st_17 (a := 8) (by decide) (S.2 0 3) _ (by omega))
                refine lv_aload hx hb dL_isSpend_498 (lv_at hl 14 rfl) ?_
                refine lv_aload hx hb dL_isSpend_500 (lv_at hl 15 rfl) ?_
                refine lv_iconst (v := 4) hx hb dL_isSpend_502 (by decide) ?_
                refine k_ild (ad := ad) (k := 17) (i := 10) Z X ct_17_10 (vp_in_nI (n := 4) (by first | assumption | omega) (by decide)) dL_isSpend_503 ?_
                refine lv_topi (fun x_503 e_503 => ?_)
                obtain rfl : x_503 = T.1 11 4 := e_503.trans (by first | (simp only [nI_clamp (show 4 < 2 ^ 31 by omega)]; done) | rfl | (simp only [nI_clamp (show 4 < 2 ^ 31 by omega)]; rfl) | (simp only [nI_clamp (show 4 < 2 ^ 31 by omega)]; simp [sI, sN]; done))
                refine lv_topi (fun x_503 e_503 => ?_)
                obtain rfl : x_503 = nI (S.2 0 3) := e_503.trans (hT.g4)
                refine lv_aload hx hb dL_isSpend_504 (lv_at hl 15 rfl) ?_
                refine lv_iconst (v := 0) hx hb dL_isSpend_506 (by decide) ?_
                refine k_ild (ad := ad) (k := 17) (i := 10) Z X ct_17_10 (vp_in_nI (n := 0) (by first | assumption | omega) (by decide)) dL_isSpend_507 ?_
                refine lv_topi (fun x_507 e_507 => ?_)
                obtain rfl : x_507 = T.1 11 0 := e_507.trans (by first | (simp only [nI_clamp (show 0 < 2 ^ 31 by omega)]; done) | rfl | (simp only [nI_clamp (show 0 < 2 ^ 31 by omega)]; rfl) | (simp only [nI_clamp (show 0 < 2 ^ 31 by omega)]; simp [sI, sN]; done))
                refine lv_topi (fun x_507 e_507 => ?_)
                obtain rfl : x_507 = S.1 0 0 := e_507.trans (hT.g0)
                refine lv_iload hx hb dL_isSpend_508 (lv_at hl 3 rfl) ?_
                refine lv_iadd hx hb dL_isSpend_510 ?_
                refine k_ist (ad := ad) (k := 17) (i := 9) Z X ct_17_9 (vp_in_nI (n := (S.2 0 3)) (by first | assumption | omega) (by decide)) dL_isSpend_511 (fun H locs X => ?_)
                have X : kX E G s H locs ad (cto G S (sI (sI T 9 (S.2 0 3) (nI ((aq + (64 * vq)) + (8192 * wq)))) 10 (S.2 0 3) ((S.1 0 0) + (nI (hoq x2)))) o ad) := X.eq (st_17 (a := 9) (by decide) (S.2 0 3) _ (by omega))
                refine lv_aload hx hb dL_isSpend_512 (lv_at hl 15 rfl) ?_
                refine lv_iconst (v := 4) hx hb dL_isSpend_514 (by decide) ?_
                refine lv_dup2_11 hx hb dL_isSpend_515 rfl rfl ?_
                refine k_ild (ad := ad) (k := 17) (i := 10) Z X ct_17_10 (vp_in_nI (n := 4) (by first | assumption | omega) (by decide)) dL_isSpend_516 ?_
                refine lv_topi (fun x_516 e_516 => ?_)
                obtain rfl : x_516 = T.1 11 4 := e_516.trans (by first | (simp only [nI_clamp (show 4 < 2 ^ 31 by omega)]; done) | rfl | (simp only [nI_clamp (show 4 < 2 ^ 31 by omega)]; rfl) | (simp only [nI_clamp (show 4 < 2 ^ 31 by omega)]; simp [sI, sN]; done))
                refine lv_topi (fun x_516 e_516 => ?_)
                obtain rfl : x_516 = nI (S.2 0 3) := e_516.trans (hT.g4)
                refine lv_iconst (v := 1) hx hb dL_isSpend_517 (by decide) ?_
                refine lv_iadd hx hb dL_isSpend_518 ?_
                refine lv_topi (fun x_518 e_518 => ?_)
                obtain rfl : x_518 = nI ((S.2 0 3) + 1) := e_518.trans (nI_add (S.2 0 3) 1)
                refine k_ist (ad := ad) (k := 17) (i := 10) Z X ct_17_10 (vp_in_nI (n := 4) (by first | assumption | omega) (by decide)) dL_isSpend_519 (fun H locs X => ?_)
                have X : kX E G s H locs ad (cto G S (sI (sI (sI T 9 (S.2 0 3) (nI ((aq + (64 * vq)) + (8192 * wq)))) 10 (S.2 0 3) ((S.1 0 0) + (nI (hoq x2)))) 11 4 (nI ((S.2 0 3) + 1))) o ad) := X.eq (st_17 (a := 10) (by decide) 4 _ (by omega))
                refine lv_aload_n hx hb dL_isSpend_520 rfl (lv_at hl 5 rfl) ?_
                refine lv_bipush (v := 8) hx hb dL_isSpend_521 (by decide) ?_
                refine lv_iload hx hb dL_isSpend_523 (lv_at hl 19 rfl) ?_
                refine lv_iload hx hb dL_isSpend_525 (lv_at hl 20 rfl) ?_
                refine lv_iload hx hb dL_isSpend_527 (lv_at hl 4 rfl) ?_
                refine lv_iload hx hb dL_isSpend_529 (lv_at hl 3 rfl) ?_
                refine k_xRi X (k_xrunSW (As := [.ref (ad 0 0), .int 8, .int (nI uq), .int (nI aq), .int (nI wq), .int (nI (hoq x2))]) (rest := []) Z X (c_L_does_8 l E G S (sI (sI (sI T 9 (S.2 0 3) (nI ((aq + (64 * vq)) + (8192 * wq)))) 10 (S.2 0 3) ((S.1 0 0) + (nI (hoq x2)))) 11 4 (nI ((S.2 0 3) + 1))) o ad (nI uq) (nI aq) (nI wq) (nI (hoq x2)) hE hS hL hh0 hvr) (k_cwSW 6 Z.1.2.2.2.2 (inU_6 _ (List.mem_of_getElem? (i := 3) rfl)) (inU_6 _ (List.mem_of_getElem? (i := 4) rfl)) (inU_6 _ (List.mem_of_getElem? (i := 5) rfl)) (inU_6 _ (List.mem_of_getElem? (i := 6) rfl)) rfl rfl (by decide +kernel) ⟨(Nat.le_of_ble_eq_true rfl), (Nat.le_of_ble_eq_true rfl)⟩) rfl hl.1 rfl (Nat.le_of_ble_eq_true rfl) dL_isSpend_531 ⟨(Nat.le_of_ble_eq_true rfl), (Nat.le_of_ble_eq_true rfl)⟩) (fun _ _ _ _ _ _ _ hp => hp.elim) (fun r_531 ad1 ct1 H locs hp X => ?_)
                have hC : cTask S (nI uq) (nI aq) (nI wq) (nI (hoq x2)) = 0 := by rw [cTask_v (by omega) (by omega) (by omega) (by omega) (by omega), hat, if_pos (of_decide_eq_true hrt), c_471]; rfl
                obtain ⟨hAK, hq⟩ := hp
                rcases hq with ⟨z, hr_, S1, hS1, hb_⟩ | ⟨z, -⟩ | ⟨z, -⟩ | ⟨z, -⟩
                case inr.inl => exact absurd (hC.symm.trans z) (by decide)
                case inr.inr.inl => exact absurd (hC.symm.trans z) (by decide)
                case inr.inr.inr => exact absurd (hC.symm.trans z) (by decide)
                subst hr_
                obtain ⟨cap, hcap, rfl⟩ := hS1
                rw [hb_] at X
                rw [← hAK.2.2 10] at hl
                refine lv_iload hx hb dL_isSpend_534 (lv_at hl 1 rfl) ?_
                refine lv_if_ne (tgt := 544) hx hb dL_isSpend_536 (by decide) (fun c_536 => ?_) (fun c_536 => ?_)
                · refine lv_iload hx hb dL_isSpend_544 (lv_at hl 2 rfl) ?_
                  refine lv_if_ne (tgt := 554) hx hb dL_isSpend_546 (by decide) (fun c_546 => ?_) (fun c_546 => ?_)
                  · refine lv_iload hx hb dL_isSpend_554 (lv_at hl 0 rfl) ?_
                    refine lv_if_eq (tgt := 568) hx hb dL_isSpend_556 (by decide) (fun c_556 => ?_) (fun c_556 => ?_)
                    · exact absurd c_556 (by decide)
                    · refine lv_aload hx hb dL_isSpend_559 (lv_at hl 15 rfl) ?_
                      refine lv_iconst (v := 4) hx hb dL_isSpend_561 (by decide) ?_
                      refine k_ild (ad := ad1) (k := 17) (i := 10) Z X ct_17_10 (vp_in_nI (n := 4) (by first | assumption | omega) (by decide)) dL_isSpend_562 ?_
                      refine lv_topi (fun x_562 e_562 => ?_)
                      obtain rfl : x_562 = nI ((S.2 0 3) + 1) := e_562.trans (by first | (simp only [nI_clamp (show 4 < 2 ^ 31 by omega)]; done) | rfl | (simp only [nI_clamp (show 4 < 2 ^ 31 by omega)]; rfl) | (simp only [nI_clamp (show 4 < 2 ^ 31 by omega)]; simp [sI, sN]; done))
                      refine lv_iconst (v := 1) hx hb dL_isSpend_563 (by decide) ?_
                      refine lv_isub hx hb dL_isSpend_564 ?_
                      refine lv_topi (fun x_564 e_564 => ?_)
                      obtain rfl : x_564 = nI (S.2 0 3) := e_564.trans (nI_pred _)
                      refine lv_goto (tgt := 570) hx hb dL_isSpend_565 (by decide) ?_
                      refine lv_icmp_ne (tgt := 577) hx hb dL_isSpend_570 (by decide) (fun c_570 => ?_) (fun c_570 => ?_)
                      · exact absurd rfl c_570
                      · refine lv_iconst (v := 1) hx hb dL_isSpend_573 (by decide) ?_
                        refine lv_goto (tgt := 578) hx hb dL_isSpend_574 (by decide) ?_
                        exact vx_ret (k_iret Z X hr hlocks rfl (by omega) (by omega) dL_isSpend_578 ⟨⟨rfl, hAK⟩, _, _, rfl, Mid.task hI hn9 ha1 (by omega) (by omega) hvq2 (by omega) hC hcap⟩)
                  · exact absurd c_546 (by decide)
                · exact absurd c_536 (by decide)
            refine lv_iload hx hb dL_isSpend_447 (lv_at hl 21 rfl) ?_
            refine lv_if_eq (tgt := 466) hx hb dL_isSpend_449 (by decide) (fun c_449 => ?_) (fun c_449 => ?_)
            · have c_449 : (caM S uq aq) = false := bI_0 c_449
              refine lv_iconst (v := 0) hx hb dL_isSpend_466 (by decide) ?_
              exact W.eq (congrArg (fun z => F0 m 467 ls (.int z :: [])) (bI_f (by rw [caT, c_449]; rfl))) (M_467 _ _ X)
            · have c_449 : (caM S uq aq) = true := bI_1 c_449
              refine lv_iload hx hb dL_isSpend_452 (lv_at hl 0 rfl) ?_
              refine lv_if_eq (tgt := 466) hx hb dL_isSpend_454 (by decide) (fun c_454 => ?_) (fun c_454 => ?_)
              · have c_454 : (arT S uq aq wq) = false := bI_0 c_454
                refine lv_iconst (v := 0) hx hb dL_isSpend_466 (by decide) ?_
                exact W.eq (congrArg (fun z => F0 m 467 ls (.int z :: [])) (bI_f (by rw [caT, c_449, c_454]; simp))) (M_467 _ _ X)
              · have c_454 : (arT S uq aq wq) = true := bI_1 c_454
                refine lv_iload hx hb dL_isSpend_457 (lv_at hl 1 rfl) ?_
                refine lv_if_eq (tgt := 466) hx hb dL_isSpend_459 (by decide) (fun c_459 => ?_) (fun c_459 => ?_)
                · have c_459 : (decide ((hoq x2) < 10001)) = false := bI_0 c_459
                  refine lv_iconst (v := 0) hx hb dL_isSpend_466 (by decide) ?_
                  exact W.eq (congrArg (fun z => F0 m 467 ls (.int z :: [])) (bI_f (by rw [caT, c_449, c_454, c_459]; simp))) (M_467 _ _ X)
                · have c_459 : (decide ((hoq x2) < 10001)) = true := bI_1 c_459
                  refine lv_iconst (v := 1) hx hb dL_isSpend_462 (by decide) ?_
                  refine lv_goto (tgt := 467) hx hb dL_isSpend_463 (by decide) ?_
                  exact W.eq (congrArg (fun z => F0 m 467 ls (.int z :: [])) (bI_t (by rw [caT, c_449, c_454, c_459]; rfl))) (M_467 _ _ X)
          refine lv_iload hx hb dL_isSpend_426 (lv_at hl 20 rfl) ?_
          refine lv_if_eq (tgt := 444) hx hb dL_isSpend_428 (by decide) (fun c_428 => ?_) (fun c_428 => ?_)
          · have c_428 : (arM S uq aq) = false := bI_0 c_428
            refine lv_iconst (v := 0) hx hb dL_isSpend_444 (by decide) ?_
            exact W.eq (congrArg (fun z => F0 m 445 ls (.int z :: [])) (bI_f (by rw [arT, c_428]; rfl))) (M_445 _ _ X)
          · have c_428 : (arM S uq aq) = true := bI_1 c_428
            refine lv_iload hx hb dL_isSpend_431 (lv_at hl 2 rfl) ?_
            refine lv_aload hx hb dL_isSpend_433 (lv_at hl 13 rfl) ?_
            refine lv_iconst (v := 1) hx hb dL_isSpend_435 (by decide) ?_
            refine k_ild (ad := ad) (k := 17) (i := 10) Z X ct_17_10 (vp_in_nI (n := 1) (by first | assumption | omega) (by decide)) dL_isSpend_436 ?_
            refine lv_topi (fun x_436 e_436 => ?_)
            obtain rfl : x_436 = T.1 11 1 := e_436.trans (by first | (simp only [nI_clamp (show 1 < 2 ^ 31 by omega)]; done) | rfl | (simp only [nI_clamp (show 1 < 2 ^ 31 by omega)]; rfl) | (simp only [nI_clamp (show 1 < 2 ^ 31 by omega)]; simp [sI, sN]; done))
            refine lv_topi (fun x_436 e_436 => ?_)
            obtain rfl : x_436 = nI (S.2 0 0) := e_436.trans (hT.g1)
            refine lv_icmp_ge (tgt := 444) hx hb dL_isSpend_437 (by decide) (fun c_437 => ?_) (fun c_437 => ?_)
            · have c_437 : S.2 0 0 ≤ wq := (nI_leI (a := S.2 0 0) (b := wq) (by omega) (by omega)).mp c_437
              refine lv_iconst (v := 0) hx hb dL_isSpend_444 (by decide) ?_
              exact W.eq (congrArg (fun z => F0 m 445 ls (.int z :: [])) (bI_f (by rw [arT, decide_eq_false (p := wq < S.2 0 0) (by omega), Bool.and_false]))) (M_445 _ _ X)
            · have c_437 : ¬ S.2 0 0 ≤ wq := fun h => c_437 ((nI_leI (a := S.2 0 0) (b := wq) (by omega) (by omega)).mpr h)
              refine lv_iconst (v := 1) hx hb dL_isSpend_440 (by decide) ?_
              refine lv_goto (tgt := 445) hx hb dL_isSpend_441 (by decide) ?_
              exact W.eq (congrArg (fun z => F0 m 445 ls (.int z :: [])) (bI_t (by rw [arT, c_428, decide_eq_true (by omega)]; rfl))) (M_445 _ _ X)
        refine lv_iload hx hb dL_isSpend_411 (lv_at hl 0 rfl) ?_
        refine lv_sipush (v := 10001) hx hb dL_isSpend_413 (by decide) ?_
        refine lv_icmp_ge (tgt := 423) hx hb dL_isSpend_416 (by decide) (fun c_416 => ?_) (fun c_416 => ?_)
        · have c_416 : 10001 ≤ hoq x2 := (nI_leI (a := 10001) (b := hoq x2) (by omega) (by omega)).mp c_416
          refine lv_iconst (v := 0) hx hb dL_isSpend_423 (by decide) ?_
          exact W.eq (congrArg (fun z => F0 m 424 ls (.int z :: [])) (bI_f (decide_eq_false (by omega)))) (M_424 _ _ X)
        · have c_416 : ¬ 10001 ≤ hoq x2 := fun h => c_416 ((nI_leI (a := 10001) (b := hoq x2) (by omega) (by omega)).mpr h)
          refine lv_iconst (v := 1) hx hb dL_isSpend_419 (by decide) ?_
          refine lv_goto (tgt := 424) hx hb dL_isSpend_420 (by decide) ?_
          exact W.eq (congrArg (fun z => F0 m 424 ls (.int z :: [])) (bI_t (decide_eq_true (by omega)))) (M_424 _ _ X)
      refine lv_iload hx hb dL_isSpend_379 (lv_at hl 14 rfl) ?_
      refine lv_bipush (v := 31) hx hb dL_isSpend_381 (by decide) ?_
      refine lv_idiv hx hb dL_isSpend_383 (by decide) ?_
      refine lv_topi (fun x_383 e_383 => ?_)
      obtain rfl : x_383 = nI (x2 / 31) := e_383.trans ((pk_div (a := x2) (d := 31) (by omega) (by omega) (by omega)))
      refine lv_bipush (v := 6) hx hb dL_isSpend_384 (by decide) ?_
      refine lv_irem hx hb dL_isSpend_386 (by decide) ?_
      refine lv_topi (fun x_386 e_386 => ?_)
      obtain rfl : x_386 = nI ((x2 / 31) % 6) := e_386.trans ((pk_rem (a := (x2 / 31)) (d := 6) (by omega) (by omega) (by omega)))
      refine lv_if_ne (tgt := 401) hx hb dL_isSpend_387 (by decide) (fun c_387 => ?_) (fun c_387 => ?_)
      · have c_387 : ¬ (x2 / 31) % 6 = 0 := fun h => c_387 ((nI_eq (a := (x2 / 31) % 6) (b := 0) (by omega) (by omega)).mpr h)
        refine lv_iload hx hb dL_isSpend_401 (lv_at hl 14 rfl) ?_
        refine lv_bipush (v := 31) hx hb dL_isSpend_403 (by decide) ?_
        refine lv_idiv hx hb dL_isSpend_405 (by decide) ?_
        refine lv_topi (fun x_405 e_405 => ?_)
        obtain rfl : x_405 = nI (x2 / 31) := e_405.trans ((pk_div (a := x2) (d := 31) (by omega) (by omega) (by omega)))
        refine lv_bipush (v := 40) hx hb dL_isSpend_406 (by decide) ?_
        refine lv_irem hx hb dL_isSpend_408 (by decide) ?_
        refine lv_topi (fun x_408 e_408 => ?_)
        obtain rfl : x_408 = nI ((x2 / 31) % 40) := e_408.trans ((pk_rem (a := (x2 / 31)) (d := 40) (by omega) (by omega) (by omega)))
        exact W.eq (congrArg (fun z => F0 m 409 ls (.int z :: [])) (by rw [hoq, if_neg c_387])) (M_409 _ _ X)
      · have c_387 : (x2 / 31) % 6 = 0 := (nI_eq (a := (x2 / 31) % 6) (b := 0) (by omega) (by omega)).mp c_387
        refine lv_iload hx hb dL_isSpend_390 (lv_at hl 14 rfl) ?_
        refine lv_iconst (v := 3) hx hb dL_isSpend_392 (by decide) ?_
        refine lv_imul hx hb dL_isSpend_393 ?_
        refine lv_topi (fun x_393 e_393 => ?_)
        obtain rfl : x_393 = nI (x2 * 3) := e_393.trans (pk_mul x2 3)
        refine lv_sipush (v := 10002) hx hb dL_isSpend_394 (by decide) ?_
        refine lv_irem hx hb dL_isSpend_397 (by decide) ?_
        refine lv_topi (fun x_397 e_397 => ?_)
        obtain rfl : x_397 = nI ((x2 * 3) % 10002) := e_397.trans ((pk_rem (a := (x2 * 3)) (d := 10002) (by omega) (by omega) (by omega)))
        refine lv_goto (tgt := 409) hx hb dL_isSpend_398 (by decide) ?_
        exact W.eq (congrArg (fun z => F0 m 409 ls (.int z :: [])) (by rw [hoq, if_pos c_387])) (M_409 _ _ X)
