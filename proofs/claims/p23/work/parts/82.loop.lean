/-! THE LAW: a turn of its loop, the loop -/
set_option maxHeartbeats 4000000 in
set_option maxRecDepth 100000 in
theorem t_body {p : Program} {l : Launch} {e : Env} {s : State} {m : MethodId} {below : List Frame} {meth : Method} {c : Code} {E : State} {G : kG} {o : Int64} {Q : State → Prop} {b i : Nat} {S T : kSt} {ad : kAd} {L wq : Nat} {xs : Nat → Int32} (hE : kE l E G) (Z : kZ p m c code 24 s #[Value.ref b] wsL_law RL E G) (hi : i < 64) (hX : va_X b L xs E E.heap) (hbl : b < E.heap.size) (hL9 : L < 2 ^ 31) (hwq : wq < 32) (hI : Iv i S T) (K : ∀ x1, x1 < 60000 → lwF p l e s m below meth c E G b i x1 o Q) : ∀ (H : Heap) (locs : List Loc) (ls : Array Slot), kX E G s H locs ad (cto G S T o ad) → lv_has ls 24 [(0, .ref b), (1, .ref (ad 0 0)), (2, .ref (ad 17 0)), (3, .ref (ad 17 1)), (4, .ref (ad 17 2)), (5, .ref (ad 17 3)), (6, .ref (ad 17 4)), (7, .ref (ad 17 5)), (8, .ref (ad 17 6)), (9, .ref (ad 17 7)), (10, .ref (ad 17 8)), (11, .ref (ad 17 9)), (12, .ref (ad 17 10)), (13, .int 1), (14, .int (nI i))] → W p l e room_1 s m #[Value.ref b] below meth c H locs (1100 * i + 200) (8000 * i + 9000) Q (F0 m 255 ls [.int (nI wq)]) := by
  intro H locs ls X hl
  have hx := Z.1.1
  have hb := Z.1.2.1
  have hT := hI.lt
  obtain ⟨hS, hL, hK9, hLg, hRp, hlog9, hB⟩ := hI.1.ok
  have hN := hS
  have hlog : S.2 0 4 < 512 := by omega
  obtain ⟨hc0, hc1, hc2, hc3⟩ := hT.c
  refine lv_istore (lv' := [(15, .int (nI wq)), (0, .ref b), (1, .ref (ad 0 0)), (2, .ref (ad 17 0)), (3, .ref (ad 17 1)), (4, .ref (ad 17 2)), (5, .ref (ad 17 3)), (6, .ref (ad 17 4)), (7, .ref (ad 17 5)), (8, .ref (ad 17 6)), (9, .ref (ad 17 7)), (10, .ref (ad 17 8)), (11, .ref (ad 17 9)), (12, .ref (ad 17 10)), (13, .int 1), (14, .int (nI i))]) hx hb dL_law_255 hl (by decide) rfl (fun ls hl => ?_)
  refine lv_aload_n hx hb dL_law_257 rfl (lv_at hl 1 rfl) ?_
  refine lv_iconst (v := 3) hx hb dL_law_258 (by decide) ?_
  refine lv_iload hx hb dL_law_259 (lv_at hl 15 rfl) ?_
  refine lv_imul hx hb dL_law_261 ?_
  refine lv_topi (fun x_261 e_261 => ?_)
  obtain rfl : x_261 = nI (3 * i) := e_261.trans (pk_mul 3 i)
  refine lv_iconst (v := 1) hx hb dL_law_262 (by decide) ?_
  refine lv_iadd hx hb dL_law_263 ?_
  refine lv_topi (fun x_263 e_263 => ?_)
  obtain rfl : x_263 = nI ((3 * i) + 1) := e_263.trans (nI_add (3 * i) 1)
  refine lv_ldc (v := 60000) hx hb Z.1.2.2.2.1 (Z.1.2.2.2.2 _ (inU_1 _ (List.mem_of_getElem? (i := 6) rfl))) dL_law_264 ?_
  refine k_Ri X (k_runS (As := [.ref b, .int (nI ((3 * i) + 1)), .int 60000]) (rest := []) Z X (c_L_part l E G S T o ad b L (3 * i + 1) 60000 xs hX hbl hL9 (by omega) ⟨by decide, by decide⟩) (k_cwS 3 Z.1.2.2.2.2 (inU_27 _ (List.mem_of_getElem? (i := 2) rfl)) (inU_27 _ (List.mem_of_getElem? (i := 3) rfl)) (inU_6 _ (List.mem_of_getElem? (i := 5) rfl)) (inU_27 _ (List.mem_of_getElem? (i := 4) rfl)) rfl rfl (by decide +kernel) ⟨Nat.le_of_ble_eq_true rfl, Nat.le_of_ble_eq_true rfl⟩) rfl hl.1 rfl (Nat.le_of_ble_eq_true rfl) dL_law_266 ⟨(by first | exact rm_c (by omega) | exact rm_s (by omega)), (by first | exact rm_c (by omega) | exact rm_s (by omega))⟩) (fun r_266 ad1 ct1 H locs hp X => ?_)
  obtain ⟨⟨x1, hx1, rfl⟩, ha_, hb_⟩ := hp
  rw [← ha_, hb_] at X
  refine lv_istore (lv' := [(16, .int (nI x1)), (15, .int (nI wq)), (0, .ref b), (1, .ref (ad 0 0)), (2, .ref (ad 17 0)), (3, .ref (ad 17 1)), (4, .ref (ad 17 2)), (5, .ref (ad 17 3)), (6, .ref (ad 17 4)), (7, .ref (ad 17 5)), (8, .ref (ad 17 6)), (9, .ref (ad 17 7)), (10, .ref (ad 17 8)), (11, .ref (ad 17 9)), (12, .ref (ad 17 10)), (13, .int 1), (14, .int (nI i))]) hx hb dL_law_269 hl (by decide) rfl (fun ls hl => ?_)
  refine lv_aload_n hx hb dL_law_271 rfl (lv_at hl 2 rfl) ?_
  refine lv_iconst (v := 3) hx hb dL_law_272 (by decide) ?_
  refine lv_iload hx hb dL_law_273 (lv_at hl 16 rfl) ?_
  refine lv_imul hx hb dL_law_275 ?_
  refine lv_topi (fun x_275 e_275 => ?_)
  obtain rfl : x_275 = nI (3 * i) := e_275.trans (pk_mul 3 i)
  refine lv_iconst (v := 2) hx hb dL_law_276 (by decide) ?_
  refine lv_iadd hx hb dL_law_277 ?_
  refine lv_topi (fun x_277 e_277 => ?_)
  obtain rfl : x_277 = nI ((3 * i) + 2) := e_277.trans (nI_add (3 * i) 2)
  refine lv_ldc (v := 60000) hx hb Z.1.2.2.2.1 (Z.1.2.2.2.2 _ (inU_1 _ (List.mem_of_getElem? (i := 6) rfl))) dL_law_278 ?_
  refine k_Ri X (k_runS (As := [.ref b, .int (nI ((3 * i) + 2)), .int 60000]) (rest := []) Z X (c_L_part l E G S T o ad b L (3 * i + 2) 60000 xs hX hbl hL9 (by omega) ⟨by decide, by decide⟩) (k_cwS 3 Z.1.2.2.2.2 (inU_27 _ (List.mem_of_getElem? (i := 2) rfl)) (inU_27 _ (List.mem_of_getElem? (i := 3) rfl)) (inU_6 _ (List.mem_of_getElem? (i := 5) rfl)) (inU_27 _ (List.mem_of_getElem? (i := 4) rfl)) rfl rfl (by decide +kernel) ⟨Nat.le_of_ble_eq_true rfl, Nat.le_of_ble_eq_true rfl⟩) rfl hl.1 rfl (Nat.le_of_ble_eq_true rfl) dL_law_280 ⟨(by first | exact rm_c (by omega) | exact rm_s (by omega)), (by first | exact rm_c (by omega) | exact rm_s (by omega))⟩) (fun r_280 ad1 ct1 H locs hp X => ?_)
  obtain ⟨⟨x2, hx2, rfl⟩, ha_, hb_⟩ := hp
  rw [← ha_, hb_] at X
  refine lv_istore (lv' := [(17, .int (nI x2)), (16, .int (nI x1)), (15, .int (nI wq)), (0, .ref b), (1, .ref (ad 0 0)), (2, .ref (ad 17 0)), (3, .ref (ad 17 1)), (4, .ref (ad 17 2)), (5, .ref (ad 17 3)), (6, .ref (ad 17 4)), (7, .ref (ad 17 5)), (8, .ref (ad 17 6)), (9, .ref (ad 17 7)), (10, .ref (ad 17 8)), (11, .ref (ad 17 9)), (12, .ref (ad 17 10)), (13, .int 1), (14, .int (nI i))]) hx hb dL_law_283 hl (by decide) rfl (fun ls hl => ?_)
  obtain ⟨uq, euq⟩ : ∃ y, y = x1 % (S.2 0 0 + 1) := ⟨_, rfl⟩
  have huq : uq ≤ S.2 0 0 := by rw [euq]; exact Nat.le_of_lt_succ (Nat.mod_lt _ (by omega))
  refine lv_iload hx hb dL_law_285 (lv_at hl 1 rfl) ?_
  refine lv_aload hx hb dL_law_287 (lv_at hl 15 rfl) ?_
  refine lv_iconst (v := 1) hx hb dL_law_289 (by decide) ?_
  refine k_ild (ad := ad) (k := 17) (i := 10) Z X ct_17_10 (vp_in_nI (n := 1) (by first | assumption | omega) (by decide)) dL_law_290 ?_
  refine lv_topi (fun x_290 e_290 => ?_)
  obtain rfl : x_290 = T.1 11 1 := e_290.trans (by first | (simp only [nI_clamp (show 1 < 2 ^ 31 by omega)]; done) | rfl | (simp only [nI_clamp (show 1 < 2 ^ 31 by omega)]; rfl) | (simp only [nI_clamp (show 1 < 2 ^ 31 by omega)]; simp [sI, sN]; done))
  refine lv_topi (fun x_290 e_290 => ?_)
  obtain rfl : x_290 = nI (S.2 0 0) := e_290.trans (hT.g1)
  refine lv_iconst (v := 1) hx hb dL_law_291 (by decide) ?_
  refine lv_iadd hx hb dL_law_292 ?_
  refine lv_topi (fun x_292 e_292 => ?_)
  obtain rfl : x_292 = nI ((S.2 0 0) + 1) := e_292.trans (nI_add (S.2 0 0) 1)
  refine lv_irem hx hb dL_law_293 (nI_ne0 (by omega) (by omega)) ?_
  refine lv_topi (fun x_293 e_293 => ?_)
  obtain rfl : x_293 = nI (x1 % ((S.2 0 0) + 1)) := e_293.trans ((pk_rem (a := x1) (d := ((S.2 0 0) + 1)) (by omega) (by omega) (by omega)))
  refine lv_topi (fun x_293 e_293 => ?_)
  obtain rfl : x_293 = nI uq := e_293.trans (congrArg nI euq.symm)
  refine lv_istore (lv' := [(18, .int (nI uq)), (17, .int (nI x2)), (16, .int (nI x1)), (15, .int (nI wq)), (0, .ref b), (1, .ref (ad 0 0)), (2, .ref (ad 17 0)), (3, .ref (ad 17 1)), (4, .ref (ad 17 2)), (5, .ref (ad 17 3)), (6, .ref (ad 17 4)), (7, .ref (ad 17 5)), (8, .ref (ad 17 6)), (9, .ref (ad 17 7)), (10, .ref (ad 17 8)), (11, .ref (ad 17 9)), (12, .ref (ad 17 10)), (13, .int 1), (14, .int (nI i))]) hx hb dL_law_294 hl (by decide) rfl (fun ls hl => ?_)
  have M_310 : ∀ (H : Heap) (locs : List Loc), kX E G s H locs ad (cto G S T o ad) → W p l e room_1 s m #[Value.ref b] below meth c H locs (1100 * i + 200 + 0 + 0) (8000 * i + 9000 + 0 + 0) Q (F0 m 310 ls [.int (bI (decide (uq < S.2 0 0)))]) := by
    intro H locs X
    refine lv_istore (lv' := [(19, .int (bI (decide (uq < S.2 0 0)))), (18, .int (nI uq)), (17, .int (nI x2)), (16, .int (nI x1)), (15, .int (nI wq)), (0, .ref b), (1, .ref (ad 0 0)), (2, .ref (ad 17 0)), (3, .ref (ad 17 1)), (4, .ref (ad 17 2)), (5, .ref (ad 17 3)), (6, .ref (ad 17 4)), (7, .ref (ad 17 5)), (8, .ref (ad 17 6)), (9, .ref (ad 17 7)), (10, .ref (ad 17 8)), (11, .ref (ad 17 9)), (12, .ref (ad 17 10)), (13, .int 1), (14, .int (nI i))]) hx hb dL_law_310 hl (by decide) rfl (fun ls hl => ?_)
    refine lv_iload hx hb dL_law_312 (lv_at hl 4 rfl) ?_
    refine lv_if_ne (tgt := 423) hx hb dL_law_314 (by decide) (fun c_314 => ?_) (fun c_314 => ?_)
    · have c_314 : ¬ wq = 0 := fun h => c_314 ((nI_eq (a := wq) (b := 0) (by omega) (by omega)).mpr h)
      refine lv_iload hx hb dL_law_423 (lv_at hl 4 rfl) ?_
      refine lv_iconst (v := 1) hx hb dL_law_425 (by decide) ?_
      refine lv_icmp_ne (tgt := 525) hx hb dL_law_426 (by decide) (fun c_426 => ?_) (fun c_426 => ?_)
      · have c_426 : ¬ wq = 1 := fun h => c_426 ((nI_eq (a := wq) (b := 1) (by omega) (by omega)).mpr h)
        refine lv_iload hx hb dL_law_525 (lv_at hl 4 rfl) ?_
        refine lv_iconst (v := 2) hx hb dL_law_527 (by decide) ?_
        refine lv_icmp_ne (tgt := 668) hx hb dL_law_528 (by decide) (fun c_528 => ?_) (fun c_528 => ?_)
        · have c_528 : ¬ wq = 2 := fun h => c_528 ((nI_eq (a := wq) (b := 2) (by omega) (by omega)).mpr h)
          refine lv_iload hx hb dL_law_668 (lv_at hl 4 rfl) ?_
          refine lv_iconst (v := 3) hx hb dL_law_670 (by decide) ?_
          refine lv_icmp_ne (tgt := 840) hx hb dL_law_671 (by decide) (fun c_671 => ?_) (fun c_671 => ?_)
          · have c_671 : ¬ wq = 3 := fun h => c_671 ((nI_eq (a := wq) (b := 3) (by omega) (by omega)).mpr h)
            refine lv_iload hx hb dL_law_840 (lv_at hl 4 rfl) ?_
            refine lv_bipush (v := 17) hx hb dL_law_842 (by decide) ?_
            refine lv_icmp_ge (tgt := 895) hx hb dL_law_844 (by decide) (fun c_844 => ?_) (fun c_844 => ?_)
            · have c_844 : 17 ≤ wq := (nI_leI (a := 17) (b := wq) (by omega) (by omega)).mp c_844
              refine lv_iload hx hb dL_law_895 (lv_at hl 4 rfl) ?_
              refine lv_bipush (v := 27) hx hb dL_law_897 (by decide) ?_
              refine lv_icmp_ge (tgt := 956) hx hb dL_law_899 (by decide) (fun c_899 => ?_) (fun c_899 => ?_)
              · have c_899 : 27 ≤ wq := (nI_leI (a := 27) (b := wq) (by omega) (by omega)).mp c_899
                refine lv_iload hx hb dL_law_956 (lv_at hl 4 rfl) ?_
                refine lv_bipush (v := 27) hx hb dL_law_958 (by decide) ?_
                refine lv_icmp_ne (tgt := 1043) hx hb dL_law_960 (by decide) (fun c_960 => ?_) (fun c_960 => ?_)
                · have c_960 : ¬ wq = 27 := fun h => c_960 ((nI_eq (a := wq) (b := 27) (by omega) (by omega)).mpr h)
                  refine lv_iload hx hb dL_law_1043 (lv_at hl 4 rfl) ?_
                  refine lv_bipush (v := 28) hx hb dL_law_1045 (by decide) ?_
                  refine lv_icmp_ne (tgt := 1136) hx hb dL_law_1047 (by decide) (fun c_1047 => ?_) (fun c_1047 => ?_)
                  · have c_1047 : ¬ wq = 28 := fun h => c_1047 ((nI_eq (a := wq) (b := 28) (by omega) (by omega)).mpr h)
                    refine W.widen (k := 1100 * i + 200) (n := 8000 * i + 9000) (by omega) (by omega) ?_
                    exact a_pass hE Z hi hx1 hx2 hwq hI huq (K x1 hx1) _ _ _ X (lv_sub hl [5, 6, 7, 8, 9, 10, 11, 12, 13, 14, 15, 16, 17, 18, 19, 4, 3, 2, 1, 0] rfl)
                  · have c_1047 : wq = 28 := (nI_eq (a := wq) (b := 28) (by omega) (by omega)).mp c_1047
                    refine W.widen (k := 1100 * i + 200) (n := 8000 * i + 9000) (by omega) (by omega) ?_
                    exact a_arch hE Z hi hx1 hx2 hwq hI huq (K x1 hx1) _ _ _ X (lv_sub hl [5, 6, 7, 8, 9, 10, 11, 12, 13, 14, 15, 16, 17, 18, 19, 4, 3, 2, 1, 0] rfl)
                · have c_960 : wq = 27 := (nI_eq (a := wq) (b := 27) (by omega) (by omega)).mp c_960
                  refine W.widen (k := 1100 * i + 200) (n := 8000 * i + 9000) (by omega) (by omega) ?_
                  exact a_hold hE Z hi hx1 hx2 hwq hI huq (K x1 hx1) _ _ _ X (lv_sub hl [5, 6, 7, 8, 9, 10, 11, 12, 13, 14, 15, 16, 17, 18, 19, 4, 3, 2, 1, 0] rfl)
              · have c_899 : ¬ 27 ≤ wq := fun h => c_899 ((nI_leI (a := 27) (b := wq) (by omega) (by omega)).mpr h)
                refine W.widen (k := 1100 * i + 200) (n := 8000 * i + 9000) (by omega) (by omega) ?_
                exact a_spend hE Z hi hx1 hx2 hwq hI huq (K x1 hx1) _ _ _ X (lv_sub hl [5, 6, 7, 8, 9, 10, 11, 12, 13, 14, 15, 16, 17, 18, 19, 4, 3, 2, 1, 0] rfl)
            · have c_844 : ¬ 17 ≤ wq := fun h => c_844 ((nI_leI (a := 17) (b := wq) (by omega) (by omega)).mpr h)
              refine W.widen (k := 1100 * i + 200) (n := 8000 * i + 9000) (by omega) (by omega) ?_
              exact a_msg hE Z hi hx1 hx2 hwq hI huq (K x1 hx1) _ _ _ X (lv_sub hl [5, 6, 7, 8, 9, 10, 11, 12, 13, 14, 15, 16, 17, 18, 19, 4, 3, 2, 1, 0] rfl)
          · have c_671 : wq = 3 := (nI_eq (a := wq) (b := 3) (by omega) (by omega)).mp c_671
            refine W.widen (k := 1100 * i + 200) (n := 8000 * i + 9000) (by omega) (by omega) ?_
            exact a_budget hE Z hi hx1 hx2 hwq hI huq (K x1 hx1) _ _ _ X (lv_sub hl [5, 6, 7, 8, 9, 10, 11, 12, 13, 14, 15, 16, 17, 18, 19, 4, 3, 2, 1, 0] rfl)
        · have c_528 : wq = 2 := (nI_eq (a := wq) (b := 2) (by omega) (by omega)).mp c_528
          refine W.widen (k := 1100 * i + 200) (n := 8000 * i + 9000) (by omega) (by omega) ?_
          exact a_ends hE Z hi hx1 hx2 hwq hI huq (K x1 hx1) _ _ _ X (lv_sub hl [5, 6, 7, 8, 9, 10, 11, 12, 13, 14, 15, 16, 17, 18, 19, 4, 3, 2, 1, 0] rfl)
      · have c_426 : wq = 1 := (nI_eq (a := wq) (b := 1) (by omega) (by omega)).mp c_426
        refine W.widen (k := 1100 * i + 200) (n := 8000 * i + 9000) (by omega) (by omega) ?_
        exact a_role hE Z hi hx1 hx2 hwq hI huq (K x1 hx1) _ _ _ X (lv_sub hl [5, 6, 7, 8, 9, 10, 11, 12, 13, 14, 15, 16, 17, 18, 19, 4, 3, 2, 1, 0] rfl)
    · have c_314 : wq = 0 := (nI_eq (a := wq) (b := 0) (by omega) (by omega)).mp c_314
      refine W.widen (k := 1100 * i + 200) (n := 8000 * i + 9000) (by omega) (by omega) ?_
      exact a_user hE Z hi hx1 hx2 hwq hI huq (K x1 hx1) _ _ _ X (lv_sub hl [5, 6, 7, 8, 9, 10, 11, 12, 13, 14, 15, 16, 17, 18, 19, 4, 3, 2, 1, 0] rfl)
  refine lv_iload hx hb dL_law_296 (lv_at hl 0 rfl) ?_
  refine lv_aload hx hb dL_law_298 (lv_at hl 16 rfl) ?_
  refine lv_iconst (v := 1) hx hb dL_law_300 (by decide) ?_
  refine k_ild (ad := ad) (k := 17) (i := 10) Z X ct_17_10 (vp_in_nI (n := 1) (by first | assumption | omega) (by decide)) dL_law_301 ?_
  refine lv_topi (fun x_301 e_301 => ?_)
  obtain rfl : x_301 = T.1 11 1 := e_301.trans (by first | (simp only [nI_clamp (show 1 < 2 ^ 31 by omega)]; done) | rfl | (simp only [nI_clamp (show 1 < 2 ^ 31 by omega)]; rfl) | (simp only [nI_clamp (show 1 < 2 ^ 31 by omega)]; simp [sI, sN]; done))
  refine lv_topi (fun x_301 e_301 => ?_)
  obtain rfl : x_301 = nI (S.2 0 0) := e_301.trans (hT.g1)
  refine lv_icmp_ge (tgt := 309) hx hb dL_law_302 (by decide) (fun c_302 => ?_) (fun c_302 => ?_)
  · have c_302 : S.2 0 0 ≤ uq := (nI_leI (a := S.2 0 0) (b := uq) (by omega) (by omega)).mp c_302
    refine lv_iconst (v := 0) hx hb dL_law_309 (by decide) ?_
    exact W.eq (congrArg (fun z => F0 m 310 ls (.int z :: [])) (bI_f (decide_eq_false (by omega)))) (M_310 _ _ X)
  · have c_302 : ¬ S.2 0 0 ≤ uq := fun h => c_302 ((nI_leI (a := S.2 0 0) (b := uq) (by omega) (by omega)).mpr h)
    refine lv_iconst (v := 1) hx hb dL_law_305 (by decide) ?_
    refine lv_goto (tgt := 310) hx hb dL_law_306 (by decide) ?_
    exact W.eq (congrArg (fun z => F0 m 310 ls (.int z :: [])) (bI_t (decide_eq_true (by omega)))) (M_310 _ _ X)
set_option maxHeartbeats 4000000 in
set_option maxRecDepth 100000 in
theorem lz_head {p : Program} {l : Launch} {e : Env} {s : State} {m : MethodId} {below : List Frame} {meth : Method} {c : Code} {E : State} {G : kG} {o : Int64} {Q : State → Prop} {b i : Nat} {S T : kSt} {ad : kAd} {L : Nat} {xs : Nat → Int32} (hE : kE l E G) (Z : kZ p m c code 24 s #[Value.ref b] wsL_law RL E G) (hi : i < 64) (hX : va_X b L xs E E.heap) (hbl : b < E.heap.size) (hL9 : L < 2 ^ 31) (hI : Iv i S T) (K : ∀ x1, x1 < 60000 → lwF p l e s m below meth c E G b i x1 o Q) : ∀ (H : Heap) (locs : List Loc) (ls : Array Slot), kX E G s H locs ad (cto G S T o ad) → lv_has ls 24 [(0, .ref b), (1, .ref (ad 0 0)), (2, .ref (ad 17 0)), (3, .ref (ad 17 1)), (4, .ref (ad 17 2)), (5, .ref (ad 17 3)), (6, .ref (ad 17 4)), (7, .ref (ad 17 5)), (8, .ref (ad 17 6)), (9, .ref (ad 17 7)), (10, .ref (ad 17 8)), (11, .ref (ad 17 9)), (12, .ref (ad 17 10)), (13, .int 1), (14, .int (nI i))] → W p l e room_1 s m #[Value.ref b] below meth c H locs (1100 * i + 200) (8000 * i + 9000) Q (F0 m 201 ls []) := by
  intro H locs ls X hl
  have hx := Z.1.1
  have hb := Z.1.2.1
  have hT := hI.lt
  obtain ⟨hS, hL, hK9, hLg, hRp, hlog9, hB⟩ := hI.1.ok
  have hN := hS
  have hlog : S.2 0 4 < 512 := by omega
  obtain ⟨hc0, hc1, hc2, hc3⟩ := hT.c
  refine lv_iload hx hb dL_law_201 (lv_at hl 14 rfl) ?_
  refine lv_bipush (v := 64) hx hb dL_law_203 (by decide) ?_
  refine lv_icmp_ge (tgt := 1295) hx hb dL_law_205 (by decide) (fun c_205 => ?_) (fun c_205 => ?_)
  · exact absurd ((nI_leI (a := 64) (b := i) (by omega) (by omega)).mp c_205) (by omega)
  · refine lv_iload hx hb dL_law_208 (lv_at hl 13 rfl) ?_
    refine lv_if_eq (tgt := 1295) hx hb dL_law_210 (by decide) (fun c_210 => ?_) (fun c_210 => ?_)
    · exact absurd c_210 (by decide)
    · refine lv_iload hx hb dL_law_213 (lv_at hl 14 rfl) ?_
      refine lv_iconst (v := 5) hx hb dL_law_215 (by decide) ?_
      refine lv_icmp_ge (tgt := 223) hx hb dL_law_216 (by decide) (fun c_216 => ?_) (fun c_216 => ?_)
      · have c_216 : 5 ≤ i := (nI_leI (a := 5) (b := i) (by omega) (by omega)).mp c_216
        refine lv_iload hx hb dL_law_223 (lv_at hl 14 rfl) ?_
        refine lv_bipush (v := 7) hx hb dL_law_225 (by decide) ?_
        refine lv_icmp_ge (tgt := 234) hx hb dL_law_227 (by decide) (fun c_227 => ?_) (fun c_227 => ?_)
        · have c_227 : 7 ≤ i := (nI_leI (a := 7) (b := i) (by omega) (by omega)).mp c_227
          refine lv_iload hx hb dL_law_234 (lv_at hl 14 rfl) ?_
          refine lv_bipush (v := 10) hx hb dL_law_236 (by decide) ?_
          refine lv_icmp_ge (tgt := 245) hx hb dL_law_238 (by decide) (fun c_238 => ?_) (fun c_238 => ?_)
          · have c_238 : 10 ≤ i := (nI_leI (a := 10) (b := i) (by omega) (by omega)).mp c_238
            refine lv_aload_n hx hb dL_law_245 rfl (lv_at hl 0 rfl) ?_
            refine lv_iconst (v := 3) hx hb dL_law_246 (by decide) ?_
            refine lv_iload hx hb dL_law_247 (lv_at hl 14 rfl) ?_
            refine lv_imul hx hb dL_law_249 ?_
            refine lv_topi (fun x_249 e_249 => ?_)
            obtain rfl : x_249 = nI (3 * i) := e_249.trans (pk_mul 3 i)
            refine lv_bipush (v := 32) hx hb dL_law_250 (by decide) ?_
            refine k_Ri X (k_runS (As := [.ref b, .int (nI (3 * i)), .int 32]) (rest := []) Z X (c_L_part l E G S T o ad b L (3 * i) 32 xs hX hbl hL9 (by omega) ⟨by decide, by decide⟩) (k_cwS 3 Z.1.2.2.2.2 (inU_27 _ (List.mem_of_getElem? (i := 2) rfl)) (inU_27 _ (List.mem_of_getElem? (i := 3) rfl)) (inU_6 _ (List.mem_of_getElem? (i := 5) rfl)) (inU_27 _ (List.mem_of_getElem? (i := 4) rfl)) rfl rfl (by decide +kernel) ⟨Nat.le_of_ble_eq_true rfl, Nat.le_of_ble_eq_true rfl⟩) rfl hl.1 rfl (Nat.le_of_ble_eq_true rfl) dL_law_252 ⟨(by first | exact rm_c (by omega) | exact rm_s (by omega)), (by first | exact rm_c (by omega) | exact rm_s (by omega))⟩) (fun r_252 ad1 ct1 H locs hp X => ?_)
            obtain ⟨⟨wq, hwq, rfl⟩, ha_, hb_⟩ := hp
            rw [← ha_, hb_] at X
            exact t_body (wq := wq) hE Z hi hX hbl hL9 (by omega) hI K _ _ _ X (lv_sub hl [0, 1, 2, 3, 4, 5, 6, 7, 8, 9, 10, 11, 12, 13, 14] rfl)
          · have c_238 : ¬ 10 ≤ i := fun h => c_238 ((nI_leI (a := 10) (b := i) (by omega) (by omega)).mpr h)
            refine lv_iconst (v := 4) hx hb dL_law_241 (by decide) ?_
            refine lv_goto (tgt := 255) hx hb dL_law_242 (by decide) ?_
            exact t_body (wq := 4) hE Z hi hX hbl hL9 (by omega) hI K _ _ _ X (lv_sub hl [0, 1, 2, 3, 4, 5, 6, 7, 8, 9, 10, 11, 12, 13, 14] rfl)
        · have c_227 : ¬ 7 ≤ i := fun h => c_227 ((nI_leI (a := 7) (b := i) (by omega) (by omega)).mpr h)
          refine lv_iconst (v := 3) hx hb dL_law_230 (by decide) ?_
          refine lv_goto (tgt := 255) hx hb dL_law_231 (by decide) ?_
          exact t_body (wq := 3) hE Z hi hX hbl hL9 (by omega) hI K _ _ _ X (lv_sub hl [0, 1, 2, 3, 4, 5, 6, 7, 8, 9, 10, 11, 12, 13, 14] rfl)
      · have c_216 : ¬ 5 ≤ i := fun h => c_216 ((nI_leI (a := 5) (b := i) (by omega) (by omega)).mpr h)
        refine lv_iconst (v := 0) hx hb dL_law_219 (by decide) ?_
        refine lv_goto (tgt := 255) hx hb dL_law_220 (by decide) ?_
        exact t_body (wq := 0) hE Z hi hX hbl hL9 (by omega) hI K _ _ _ X (lv_sub hl [0, 1, 2, 3, 4, 5, 6, 7, 8, 9, 10, 11, 12, 13, 14] rfl)
set_option maxHeartbeats 4000000 in
set_option maxRecDepth 100000 in
theorem law_loop {p : Program} {l : Launch} {e : Env} {s : State} {m : MethodId} {below : List Frame} {meth : Method} {c : Code} {b L : Nat} {xs : Nat → Int32} {G : kG} {o : Int64} (hE : kE l s G) (Z : kZ p m c code 24 s #[Value.ref b] wsL_law RL s G) (hX : va_X b L xs s s.heap) (hbl : b < s.heap.size) (hL9 : L < 2 ^ 31) (hr : meth.sig.returnType = ret) (hlocks : meth.locks = false) : ∀ (d i : Nat), i + d = 64 → lwH p l e s m below meth c s G b i o (lw_Z below #[Value.ref b] s) := by
  intro d
  induction d with
  | zero =>
    intro i hi S T ad H locs ls hI X hl
    have hx := Z.1.1
    have hb := Z.1.2.1
    have hl : lv_has ls 24 [(0, .ref b), (1, .ref (ad 0 0)), (2, .ref (ad 17 0)), (3, .ref (ad 17 1)), (4, .ref (ad 17 2)), (5, .ref (ad 17 3)), (6, .ref (ad 17 4)), (7, .ref (ad 17 5)), (8, .ref (ad 17 6)), (9, .ref (ad 17 7)), (10, .ref (ad 17 8)), (11, .ref (ad 17 9)), (12, .ref (ad 17 10)), (13, .int 1), (14, .int (nI i))] := hl
    have hi : i = 64 := by omega
    refine lv_iload hx hb dL_law_201 (lv_at hl 14 rfl) ?_
    refine lv_bipush (v := 64) hx hb dL_law_203 (by decide) ?_
    refine lv_icmp_ge (tgt := 1295) hx hb dL_law_205 (by decide) (fun c_205 => ?_) (fun c_205 => ?_)
    · refine lv_iload hx hb dL_law_1295 (lv_at hl 13 rfl) ?_
      refine va_forget X.2.2.2 ?_
      refine W.widen (k := room_1.cells) (n := room_1.slots) (rm_c (by omega)) (rm_s (by omega)) ?_
      exact lw_ret hx hb hr hlocks dL_law_1297
    · exact absurd ((nI_leI (a := 64) (b := i) (by omega) (by omega)).mpr (by omega)) c_205
  | succ d ih =>
    intro i hi S T ad H locs ls hI X hl
    exact lz_head hE Z (by omega) hX hbl hL9 hI (fun x1 hx1 => t_foot hE Z (by omega) hx1 (ih (i + 1) (by omega))) _ _ _ X hl
