/-! THE LAW: behind each call -/
theorem vEnds_pm {S : kSt} {hr hq : Nat} (he : S.1 0 0 = nI hr) (h : hr < 100000) (h2 : hq ≤ 10002) : vEnds S (nI hq - 1) = -1 ∨ 0 ≤ vEnds S (nI hq - 1) := by
  unfold vEnds
  by_cases h0 : hq = 0
  · rw [if_pos ((m1_m1 (by omega)).mpr h0)]; exact Or.inl rfl
  · rw [if_neg (fun z => h0 ((m1_m1 (by omega)).mp z)), m1_at (by omega), he, nI_add]
    exact Or.inr (nI_pos' (by omega))
theorem hold_sub {x : Int32} (h : x = 0 ∨ x = 1) : 1 - x = bI (decide (x = 0)) := by
  rcases h with rfl | rfl <;> decide
set_option maxHeartbeats 4000000 in
set_option maxRecDepth 100000 in
theorem t_foot {p : Program} {l : Launch} {e : Env} {s : State} {m : MethodId} {below : List Frame} {meth : Method} {c : Code} {E : State} {G : kG} {o : Int64} {Q : State → Prop} {b i : Nat} {x1 : Nat} (hE : kE l E G) (Z : kZ p m c code 24 s #[Value.ref b] wsL_law RL E G) (hi : i < 64) (hx1 : x1 < 60000) (K : lwH p l e s m below meth c E G b (i + 1) o Q) : lwF p l e s m below meth c E G b i x1 o Q := by
  intro S T ad H locs ls hMid X hl
  have hx := Z.1.1
  have hb := Z.1.2.1
  have hl : lv_has ls 24 [(0, .ref b), (1, .ref (ad 0 0)), (2, .ref (ad 17 0)), (3, .ref (ad 17 1)), (4, .ref (ad 17 2)), (5, .ref (ad 17 3)), (6, .ref (ad 17 4)), (7, .ref (ad 17 5)), (8, .ref (ad 17 6)), (9, .ref (ad 17 7)), (10, .ref (ad 17 8)), (11, .ref (ad 17 9)), (12, .ref (ad 17 10)), (13, .int 1), (14, .int (nI i)), (16, .int (nI x1))] := hl
  obtain ⟨⟨Tt, hTie⟩, M, hT, hsum, hBM, hSM⟩ := id hMid
  have hN := Mid.okM hTie hSM
  refine lv_aload_n hx hb dL_law_1231 rfl (lv_at hl 2 rfl) ?_
  refine lv_aload_n hx hb dL_law_1232 rfl (lv_at hl 3 rfl) ?_
  refine lv_aload hx hb dL_law_1233 (lv_at hl 4 rfl) ?_
  refine lv_aload hx hb dL_law_1235 (lv_at hl 6 rfl) ?_
  refine lv_aload hx hb dL_law_1237 (lv_at hl 7 rfl) ?_
  refine lv_aload hx hb dL_law_1239 (lv_at hl 8 rfl) ?_
  refine lv_aload hx hb dL_law_1241 (lv_at hl 9 rfl) ?_
  refine lv_aload hx hb dL_law_1243 (lv_at hl 12 rfl) ?_
  refine k_Rv X (k_runS (As := [.ref (ad 17 0), .ref (ad 17 1), .ref (ad 17 2), .ref (ad 17 4), .ref (ad 17 5), .ref (ad 17 6), .ref (ad 17 7), .ref (ad 17 10)]) (rest := []) Z X (c_L_settles l E G S T o ad M hT hN) (k_cwS 8 Z.1.2.2.2.2 (inU_28 _ (List.mem_of_getElem? (i := 5) rfl)) (inU_28 _ (List.mem_of_getElem? (i := 6) rfl)) (inU_6 _ (List.mem_of_getElem? (i := 5) rfl)) (inU_28 _ (List.mem_of_getElem? (i := 7) rfl)) rfl rfl (by decide +kernel) ⟨Nat.le_of_ble_eq_true rfl, Nat.le_of_ble_eq_true rfl⟩) rfl hl.1 rfl (Nat.le_of_ble_eq_true rfl) dL_law_1245 ⟨(by first | exact rm_c (by omega) | exact rm_s (by omega)), (by first | exact rm_c (by omega) | exact rm_s (by omega))⟩) (fun ad1 ct1 H locs hp X => ?_)
  obtain ⟨ha_, T1, hb_, hT1, h11⟩ := hp
  rw [← ha_, hb_] at X
  rw [← hSM] at hT1
  obtain ⟨k1, k2⟩ := stl_keep hN hBM (kdS M) (M.2 0 2) (Nat.le_refl _)
  rw [← hSM] at k1 k2
  have hI : Inv (i + 1) S T1 := ⟨⟨Tt, hTie⟩, hT1, by rw [h11, hsum, k1]⟩
  refine lv_iload hx hb dL_law_1248 (lv_at hl 13 rfl) ?_
  refine lv_if_eq (tgt := 1286) hx hb dL_law_1250 (by decide) (fun c_1250 => ?_) (fun c_1250 => ?_)
  · exact absurd c_1250 (by decide)
  · refine lv_aload_n hx hb dL_law_1253 rfl (lv_at hl 1 rfl) ?_
    refine lv_aload_n hx hb dL_law_1254 rfl (lv_at hl 2 rfl) ?_
    refine lv_aload_n hx hb dL_law_1255 rfl (lv_at hl 3 rfl) ?_
    refine lv_aload hx hb dL_law_1256 (lv_at hl 4 rfl) ?_
    refine lv_aload hx hb dL_law_1258 (lv_at hl 5 rfl) ?_
    refine lv_aload hx hb dL_law_1260 (lv_at hl 6 rfl) ?_
    refine lv_aload hx hb dL_law_1262 (lv_at hl 7 rfl) ?_
    refine lv_aload hx hb dL_law_1264 (lv_at hl 8 rfl) ?_
    refine lv_aload hx hb dL_law_1266 (lv_at hl 9 rfl) ?_
    refine lv_aload hx hb dL_law_1268 (lv_at hl 10 rfl) ?_
    refine lv_aload hx hb dL_law_1270 (lv_at hl 11 rfl) ?_
    refine lv_aload hx hb dL_law_1272 (lv_at hl 12 rfl) ?_
    refine lv_iload hx hb dL_law_1274 (lv_at hl 15 rfl) ?_
    refine k_xRi X (k_xrunS (As := [.ref (ad 0 0), .ref (ad 17 0), .ref (ad 17 1), .ref (ad 17 2), .ref (ad 17 3), .ref (ad 17 4), .ref (ad 17 5), .ref (ad 17 6), .ref (ad 17 7), .ref (ad 17 8), .ref (ad 17 9), .ref (ad 17 10), .int (nI x1)]) (rest := []) Z X (c_L_isSo l E G S T1 o ad hE (i + 1) x1 (by omega) hx1 hI) (k_cwS 13 Z.1.2.2.2.2 (inU_28 _ (List.mem_of_getElem? (i := 9) rfl)) (inU_28 _ (List.mem_of_getElem? (i := 10) rfl)) (inU_6 _ (List.mem_of_getElem? (i := 5) rfl)) (inU_28 _ (List.mem_of_getElem? (i := 11) rfl)) rfl rfl (by decide +kernel) ⟨Nat.le_of_ble_eq_true rfl, Nat.le_of_ble_eq_true rfl⟩) rfl hl.1 rfl (Nat.le_of_ble_eq_true rfl) dL_law_1276 ⟨(by first | exact rm_c (by omega) | exact rm_s (by omega)), (by first | exact rm_c (by omega) | exact rm_s (by omega))⟩) (fun _ _ _ _ _ _ _ hp => hp.elim) (fun r_1276 ad1 ct1 H locs hp X => ?_)
    obtain ⟨⟨hr_, ha_⟩, S1, hb_, hI1⟩ := hp
    subst hr_
    rw [← ha_, hb_] at X
    refine lv_if_eq (tgt := 1286) hx hb dL_law_1279 (by decide) (fun c_1279 => ?_) (fun c_1279 => ?_)
    · exact absurd c_1279 (by decide)
    · refine lv_iconst (v := 1) hx hb dL_law_1282 (by decide) ?_
      refine lv_goto (tgt := 1287) hx hb dL_law_1283 (by decide) ?_
      refine lv_istore (lv' := [(13, .int 1), (0, .ref b), (1, .ref (ad 0 0)), (2, .ref (ad 17 0)), (3, .ref (ad 17 1)), (4, .ref (ad 17 2)), (5, .ref (ad 17 3)), (6, .ref (ad 17 4)), (7, .ref (ad 17 5)), (8, .ref (ad 17 6)), (9, .ref (ad 17 7)), (10, .ref (ad 17 8)), (11, .ref (ad 17 9)), (12, .ref (ad 17 10)), (14, .int (nI i)), (16, .int (nI x1))]) hx hb dL_law_1287 hl (by decide) rfl (fun ls hl => ?_)
      refine lv_iinc (v := (nI (i + 1))) (lv' := [(14, .int (nI (i + 1))), (13, .int 1), (0, .ref b), (1, .ref (ad 0 0)), (2, .ref (ad 17 0)), (3, .ref (ad 17 1)), (4, .ref (ad 17 2)), (5, .ref (ad 17 3)), (6, .ref (ad 17 4)), (7, .ref (ad 17 5)), (8, .ref (ad 17 6)), (9, .ref (ad 17 7)), (10, .ref (ad 17 8)), (11, .ref (ad 17 9)), (12, .ref (ad 17 10)), (16, .int (nI x1))]) hx hb dL_law_1289 hl (k := 14) rfl (nI_1 _) (by decide) rfl (fun ls hl => ?_)
      refine lv_goto (tgt := 201) hx hb dL_law_1292 (by decide) ?_
      refine W.widen (k := 1100 * (i + 1) + 200) (n := 8000 * (i + 1) + 9000) (by omega) (by omega) ?_
      exact K _ _ _ _ _ _ ⟨hI1, BB.tr hI.2.1 hI.ok.1 hI1.2.1 hI1.ok.1 k2⟩ X (lv_sub hl [2, 3, 4, 5, 6, 7, 8, 9, 10, 11, 12, 13, 14, 1, 0] rfl)
