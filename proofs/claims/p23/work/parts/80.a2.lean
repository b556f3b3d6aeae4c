/-! THE LAW: budgets, messages, spends -/
set_option maxHeartbeats 4000000 in
set_option maxRecDepth 100000 in
theorem a_budget {p : Program} {l : Launch} {e : Env} {s : State} {m : MethodId} {below : List Frame} {meth : Method} {c : Code} {E : State} {G : kG} {o : Int64} {Q : State → Prop} {b i : Nat} {S T : kSt} {ad : kAd} {x1 x2 wq uq : Nat} (hE : kE l E G) (Z : kZ p m c code 24 s #[Value.ref b] wsL_law RL E G) (hi : i < 64) (hx1 : x1 < 60000) (hx2 : x2 < 60000) (hwq : wq < 32) (hI : Iv i S T) (huq : uq ≤ S.2 0 0) (K : lwF p l e s m below meth c E G b i x1 o Q) : ∀ (H : Heap) (locs : List Loc) (ls : Array Slot), kX E G s H locs ad (cto G S T o ad) → lv_has ls 24 [(0, .ref b), (1, .ref (ad 0 0)), (2, .ref (ad 17 0)), (3, .ref (ad 17 1)), (4, .ref (ad 17 2)), (5, .ref (ad 17 3)), (6, .ref (ad 17 4)), (7, .ref (ad 17 5)), (8, .ref (ad 17 6)), (9, .ref (ad 17 7)), (10, .ref (ad 17 8)), (11, .ref (ad 17 9)), (12, .ref (ad 17 10)), (13, .int 1), (14, .int (nI i)), (15, .int (nI wq)), (16, .int (nI x1)), (17, .int (nI x2)), (18, .int (nI uq)), (19, .int (bI (decide (uq < S.2 0 0))))] → W p l e room_1 s m #[Value.ref b] below meth c H locs (1100 * i + 200) (8000 * i + 9000) Q (F0 m 674 ls []) := by
  intro H locs ls X hl
  have hx := Z.1.1
  have hb := Z.1.2.1
  have hT := hI.lt
  obtain ⟨hS, hL, hK9, hLg, hRp, hlog9, hB⟩ := hI.1.ok
  have hN := hS
  have hlog : S.2 0 4 < 512 := by omega
  obtain ⟨hc0, hc1, hc2, hc3⟩ := hT.c
  obtain ⟨ch, ech⟩ : ∃ y, y = chB i x2 := ⟨_, rfl⟩
  have hch7 : ch < 7 := by rw [ech]; exact chB_lt i x2
  obtain ⟨ca, eca⟩ : ∃ y, y = cnB x1 := ⟨_, rfl⟩
  have hca : ca < 1020000 := by rw [eca]; exact cnB_lt hx1
  have M_693 : ∀ (H : Heap) (locs : List Loc), kX E G s H locs ad (cto G S T o ad) → W p l e room_1 s m #[Value.ref b] below meth c H locs (1100 * i + 200) (8000 * i + 9000) Q (F0 m 693 ls [.int (nI ch)]) := by
    intro H locs X
    refine lv_istore (lv' := [(20, .int (nI ch)), (0, .ref b), (1, .ref (ad 0 0)), (2, .ref (ad 17 0)), (3, .ref (ad 17 1)), (4, .ref (ad 17 2)), (5, .ref (ad 17 3)), (6, .ref (ad 17 4)), (7, .ref (ad 17 5)), (8, .ref (ad 17 6)), (9, .ref (ad 17 7)), (10, .ref (ad 17 8)), (11, .ref (ad 17 9)), (12, .ref (ad 17 10)), (13, .int 1), (14, .int (nI i)), (15, .int (nI wq)), (16, .int (nI x1)), (17, .int (nI x2)), (18, .int (nI uq)), (19, .int (bI (decide (uq < S.2 0 0))))]) hx hb dL_law_693 hl (by decide) rfl (fun ls hl => ?_)
    have M_716 : ∀ (H : Heap) (locs : List Loc), kX E G s H locs ad (cto G S T o ad) → W p l e room_1 s m #[Value.ref b] below meth c H locs (1100 * i + 200) (8000 * i + 9000) Q (F0 m 716 ls [.int (nI ca)]) := by
      intro H locs X
      refine lv_istore (lv' := [(21, .int (nI ca)), (20, .int (nI ch)), (0, .ref b), (1, .ref (ad 0 0)), (2, .ref (ad 17 0)), (3, .ref (ad 17 1)), (4, .ref (ad 17 2)), (5, .ref (ad 17 3)), (6, .ref (ad 17 4)), (7, .ref (ad 17 5)), (8, .ref (ad 17 6)), (9, .ref (ad 17 7)), (10, .ref (ad 17 8)), (11, .ref (ad 17 9)), (12, .ref (ad 17 10)), (13, .int 1), (14, .int (nI i)), (15, .int (nI wq)), (16, .int (nI x1)), (17, .int (nI x2)), (18, .int (nI uq)), (19, .int (bI (decide (uq < S.2 0 0))))]) hx hb dL_law_716 hl (by decide) rfl (fun ls hl => ?_)
      have M_730 : ∀ (H : Heap) (locs : List Loc), kX E G s H locs ad (cto G S T o ad) → W p l e room_1 s m #[Value.ref b] below meth c H locs (1100 * i + 200) (8000 * i + 9000) Q (F0 m 730 ls [.int (bI (decide (ca < 1000001)))]) := by
        intro H locs X
        refine lv_istore (lv' := [(22, .int (bI (decide (ca < 1000001)))), (21, .int (nI ca)), (20, .int (nI ch)), (0, .ref b), (1, .ref (ad 0 0)), (2, .ref (ad 17 0)), (3, .ref (ad 17 1)), (4, .ref (ad 17 2)), (5, .ref (ad 17 3)), (6, .ref (ad 17 4)), (7, .ref (ad 17 5)), (8, .ref (ad 17 6)), (9, .ref (ad 17 7)), (10, .ref (ad 17 8)), (11, .ref (ad 17 9)), (12, .ref (ad 17 10)), (13, .int 1), (14, .int (nI i)), (15, .int (nI wq)), (16, .int (nI x1)), (17, .int (nI x2)), (18, .int (nI uq)), (19, .int (bI (decide (uq < S.2 0 0))))]) hx hb dL_law_730 hl (by decide) rfl (fun ls hl => ?_)
        have M_749 : ∀ (H : Heap) (locs : List Loc), kX E G s H locs ad (cto G S T o ad) → W p l e room_1 s m #[Value.ref b] below meth c H locs (1100 * i + 200) (8000 * i + 9000) Q (F0 m 749 ls [.int (bI (decide (ch < 6) && decide (ca < 1000001)))]) := by
          intro H locs X
          refine lv_istore (lv' := [(23, .int (bI (decide (ch < 6) && decide (ca < 1000001)))), (22, .int (bI (decide (ca < 1000001)))), (21, .int (nI ca)), (20, .int (nI ch)), (0, .ref b), (1, .ref (ad 0 0)), (2, .ref (ad 17 0)), (3, .ref (ad 17 1)), (4, .ref (ad 17 2)), (5, .ref (ad 17 3)), (6, .ref (ad 17 4)), (7, .ref (ad 17 5)), (8, .ref (ad 17 6)), (9, .ref (ad 17 7)), (10, .ref (ad 17 8)), (11, .ref (ad 17 9)), (12, .ref (ad 17 10)), (13, .int 1), (14, .int (nI i)), (15, .int (nI wq)), (16, .int (nI x1)), (17, .int (nI x2)), (18, .int (nI uq)), (19, .int (bI (decide (uq < S.2 0 0))))]) hx hb dL_law_749 hl (by decide) rfl (fun ls hl => ?_)
          cases hcn : (decide (ch < 6) && decide (ca < 1000001)) with
          | false =>
            rw [hcn] at hl
            refine lv_aload hx hb dL_law_751 (lv_at hl 11 rfl) ?_
            refine lv_iload hx hb dL_law_753 (lv_at hl 0 rfl) ?_
            refine lv_if_eq (tgt := 763) hx hb dL_law_755 (by decide) (fun c_755 => ?_) (fun c_755 => ?_)
            · refine lv_bipush (v := 7) hx hb dL_law_763 (by decide) ?_
              refine lv_dup2_11 hx hb dL_law_765 rfl rfl ?_
              refine k_ild (ad := ad) (k := 17) (i := 5) Z X ct_17_5 (vp_in_nI (n := 7) (by first | assumption | omega) (by decide)) dL_law_766 ?_
              refine lv_topi (fun x_766 e_766 => ?_)
              obtain rfl : x_766 = T.1 6 7 := e_766.trans (by first | (simp only [nI_clamp (show 7 < 2 ^ 31 by omega)]; done) | rfl | (simp only [nI_clamp (show 7 < 2 ^ 31 by omega)]; rfl) | (simp only [nI_clamp (show 7 < 2 ^ 31 by omega)]; simp [sI, sN]; done))
              refine lv_iload hx hb dL_law_767 (lv_at hl 2 rfl) ?_
              refine lv_iadd hx hb dL_law_769 ?_
              refine k_ist (ad := ad) (k := 17) (i := 5) Z X ct_17_5 (vp_in_nI (n := 7) (by first | assumption | omega) (by decide)) dL_law_770 (fun H locs X => ?_)
              have X : kX E G s H locs ad (cto G S (sI T 6 7 ((T.1 6 7) + (nI ca))) o ad) := X.eq (st_17 (a := 5) (by decide) 7 _ (by omega))
              refine lv_aload hx hb dL_law_771 (lv_at hl 16 rfl) ?_
              refine lv_iconst (v := 5) hx hb dL_law_773 (by decide) ?_
              refine lv_dup2_11 hx hb dL_law_774 rfl rfl ?_
              refine k_ild (ad := ad) (k := 17) (i := 10) Z X ct_17_10 (vp_in_nI (n := 5) (by first | assumption | omega) (by decide)) dL_law_775 ?_
              refine lv_topi (fun x_775 e_775 => ?_)
              obtain rfl : x_775 = T.1 11 5 := e_775.trans (by first | (simp only [nI_clamp (show 5 < 2 ^ 31 by omega)]; done) | rfl | (simp only [nI_clamp (show 5 < 2 ^ 31 by omega)]; rfl) | (simp only [nI_clamp (show 5 < 2 ^ 31 by omega)]; simp [sI, sN]; done))
              refine lv_iload hx hb dL_law_776 (lv_at hl 0 rfl) ?_
              refine lv_if_eq (tgt := 786) hx hb dL_law_778 (by decide) (fun c_778 => ?_) (fun c_778 => ?_)
              · refine lv_iconst (v := 0) hx hb dL_law_786 (by decide) ?_
                refine lv_iadd hx hb dL_law_787 ?_
                refine k_ist (ad := ad) (k := 17) (i := 10) Z X ct_17_10 (vp_in_nI (n := 5) (by first | assumption | omega) (by decide)) dL_law_788 (fun H locs X => ?_)
                have X : kX E G s H locs ad (cto G S (sI (sI T 6 7 ((T.1 6 7) + (nI ca))) 11 5 ((T.1 11 5) + 0)) o ad) := X.eq (st_17 (a := 10) (by decide) 5 _ (by omega))
                cases h6 : decide (ch = 6) with
                | false =>
                  have hc6 : ch < 6 := by have := of_decide_eq_false h6; omega
                  have hcr : ¬ ca < 1000001 := fun z => by rw [decide_eq_true hc6, decide_eq_true z] at hcn; exact absurd hcn (by decide)
                  rw [decide_eq_false hcr] at hl
                  refine lv_aload_n hx hb dL_law_789 rfl (lv_at hl 5 rfl) ?_
                  refine lv_iconst (v := 3) hx hb dL_law_790 (by decide) ?_
                  refine lv_iload hx hb dL_law_791 (lv_at hl 3 rfl) ?_
                  refine lv_iload hx hb dL_law_793 (lv_at hl 2 rfl) ?_
                  refine lv_iconst (v := 0) hx hb dL_law_795 (by decide) ?_
                  refine lv_iconst (v := 0) hx hb dL_law_796 (by decide) ?_
                  refine k_xRi X (k_xrunSW (As := [.ref (ad 0 0), .int 3, .int (nI ch), .int (nI ca), .int 0, .int 0]) (rest := []) Z X (c_L_does_3 l E G S (sI (sI T 6 7 ((T.1 6 7) + (nI ca))) 11 5 ((T.1 11 5) + 0)) o ad (nI ch) (nI ca) 0 0 hE hS hL) (k_cwSW 6 Z.1.2.2.2.2 (inU_6 _ (List.mem_of_getElem? (i := 3) rfl)) (inU_6 _ (List.mem_of_getElem? (i := 4) rfl)) (inU_6 _ (List.mem_of_getElem? (i := 5) rfl)) (inU_6 _ (List.mem_of_getElem? (i := 6) rfl)) rfl rfl (by decide +kernel) ⟨(Nat.le_of_ble_eq_true rfl), (Nat.le_of_ble_eq_true rfl)⟩) rfl hl.1 rfl (Nat.le_of_ble_eq_true rfl) dL_law_797 ⟨(by first | exact rm_c (by omega) | exact rm_s (by omega)), (by first | exact rm_c (by omega) | exact rm_s (by omega))⟩) (fun _ _ _ _ _ _ _ hp => hp.elim) (fun r_797 ad1 ct1 H locs hp X => ?_)
                  have hC : cBudget S (nI ch) (nI ca) = 2 := by rw [cBudget_v hI.2 (by omega) (by omega) (by omega), if_pos hc6, if_neg hcr]
                  obtain ⟨ha_, hq⟩ := hp
                  rcases hq with ⟨z, -⟩ | ⟨z, -⟩ | ⟨z, hr_, hb_⟩ | ⟨z, -⟩
                  case inl => exact absurd (hC.symm.trans z) (by decide)
                  case inr.inl => exact absurd (hC.symm.trans z) (by decide)
                  case inr.inr.inr => exact absurd (hC.symm.trans z) (by decide)
                  subst hr_
                  rw [hb_, ← ha_] at X
                  refine lv_iload hx hb dL_law_800 (lv_at hl 3 rfl) ?_
                  refine lv_bipush (v := 6) hx hb dL_law_802 (by decide) ?_
                  refine lv_icmp_ne (tgt := 812) hx hb dL_law_804 (by decide) (fun c_804 => ?_) (fun c_804 => ?_)
                  · refine lv_iload hx hb dL_law_812 (lv_at hl 1 rfl) ?_
                    refine lv_if_eq (tgt := 825) hx hb dL_law_814 (by decide) (fun c_814 => ?_) (fun c_814 => ?_)
                    · refine lv_ldc (v := (-2000000)) hx hb Z.1.2.2.2.1 (Z.1.2.2.2.2 _ (inU_1 _ (List.mem_of_getElem? (i := 4) rfl))) dL_law_825 ?_
                      refine lv_icmp_ne (tgt := 834) hx hb dL_law_827 (by decide) (fun c_827 => ?_) (fun c_827 => ?_)
                      · exact absurd rfl c_827
                      · refine lv_iconst (v := 1) hx hb dL_law_830 (by decide) ?_
                        refine lv_goto (tgt := 835) hx hb dL_law_831 (by decide) ?_
                        refine lv_istore (lv' := [(13, .int 1), (23, .int (bI false)), (22, .int (bI false)), (21, .int (nI ca)), (20, .int (nI ch)), (0, .ref b), (1, .ref (ad 0 0)), (2, .ref (ad 17 0)), (3, .ref (ad 17 1)), (4, .ref (ad 17 2)), (5, .ref (ad 17 3)), (6, .ref (ad 17 4)), (7, .ref (ad 17 5)), (8, .ref (ad 17 6)), (9, .ref (ad 17 7)), (10, .ref (ad 17 8)), (11, .ref (ad 17 9)), (12, .ref (ad 17 10)), (14, .int (nI i)), (15, .int (nI wq)), (16, .int (nI x1)), (17, .int (nI x2)), (18, .int (nI uq)), (19, .int (bI (decide (uq < S.2 0 0))))]) hx hb dL_law_835 hl (by decide) rfl (fun ls hl => ?_)
                        refine lv_goto (tgt := 1231) hx hb dL_law_837 (by decide) ?_
                        refine W.widen (k := 1100 * i + 240) (n := 8000 * i + 10000) (by omega) (by omega) ?_
                        exact K _ _ _ _ _ _ ((hI.junk (Int32.add_zero _)).mid (by omega)) X (lv_sub hl [5, 6, 7, 8, 9, 10, 11, 12, 13, 14, 15, 16, 17, 0, 18, 20] rfl)
                    · exact absurd c_814 (by decide)
                  · exact absurd ((nI_eq (a := ch) (b := 6) (by omega) (by omega)).mp c_804) (by omega)
                | true =>
                  have hc6 : ¬ ch < 6 := by have := of_decide_eq_true h6; omega
                  refine lv_aload_n hx hb dL_law_789 rfl (lv_at hl 5 rfl) ?_
                  refine lv_iconst (v := 3) hx hb dL_law_790 (by decide) ?_
                  refine lv_iload hx hb dL_law_791 (lv_at hl 3 rfl) ?_
                  refine lv_iload hx hb dL_law_793 (lv_at hl 2 rfl) ?_
                  refine lv_iconst (v := 0) hx hb dL_law_795 (by decide) ?_
                  refine lv_iconst (v := 0) hx hb dL_law_796 (by decide) ?_
                  refine k_xRi X (k_xrunSW (As := [.ref (ad 0 0), .int 3, .int (nI ch), .int (nI ca), .int 0, .int 0]) (rest := []) Z X (c_L_does_3 l E G S (sI (sI T 6 7 ((T.1 6 7) + (nI ca))) 11 5 ((T.1 11 5) + 0)) o ad (nI ch) (nI ca) 0 0 hE hS hL) (k_cwSW 6 Z.1.2.2.2.2 (inU_6 _ (List.mem_of_getElem? (i := 3) rfl)) (inU_6 _ (List.mem_of_getElem? (i := 4) rfl)) (inU_6 _ (List.mem_of_getElem? (i := 5) rfl)) (inU_6 _ (List.mem_of_getElem? (i := 6) rfl)) rfl rfl (by decide +kernel) ⟨(Nat.le_of_ble_eq_true rfl), (Nat.le_of_ble_eq_true rfl)⟩) rfl hl.1 rfl (Nat.le_of_ble_eq_true rfl) dL_law_797 ⟨(by first | exact rm_c (by omega) | exact rm_s (by omega)), (by first | exact rm_c (by omega) | exact rm_s (by omega))⟩) (fun _ _ _ _ _ _ _ hp => hp.elim) (fun r_797 ad1 ct1 H locs hp X => ?_)
                  have hC : cBudget S (nI ch) (nI ca) = 1 := by rw [cBudget_v hI.2 (by omega) (by omega) (by omega), if_neg hc6]
                  obtain ⟨ha_, hq⟩ := hp
                  rcases hq with ⟨z, -⟩ | ⟨z, hr_, hb_⟩ | ⟨z, -⟩ | ⟨z, -⟩
                  case inl => exact absurd (hC.symm.trans z) (by decide)
                  case inr.inr.inl => exact absurd (hC.symm.trans z) (by decide)
                  case inr.inr.inr => exact absurd (hC.symm.trans z) (by decide)
                  subst hr_
                  rw [hb_, ← ha_] at X
                  refine lv_iload hx hb dL_law_800 (lv_at hl 3 rfl) ?_
                  refine lv_bipush (v := 6) hx hb dL_law_802 (by decide) ?_
                  refine lv_icmp_ne (tgt := 812) hx hb dL_law_804 (by decide) (fun c_804 => ?_) (fun c_804 => ?_)
                  · exact absurd (congrArg nI (show ch = 6 by omega)) c_804
                  · refine lv_ldc (v := (-3000000)) hx hb Z.1.2.2.2.1 (Z.1.2.2.2.2 _ (inU_1 _ (List.mem_of_getElem? (i := 5) rfl))) dL_law_807 ?_
                    refine lv_goto (tgt := 827) hx hb dL_law_809 (by decide) ?_
                    refine lv_icmp_ne (tgt := 834) hx hb dL_law_827 (by decide) (fun c_827 => ?_) (fun c_827 => ?_)
                    · exact absurd rfl c_827
                    · refine lv_iconst (v := 1) hx hb dL_law_830 (by decide) ?_
                      refine lv_goto (tgt := 835) hx hb dL_law_831 (by decide) ?_
                      refine lv_istore (lv' := [(13, .int 1), (23, .int (bI false)), (22, .int (bI (decide (ca < 1000001)))), (21, .int (nI ca)), (20, .int (nI ch)), (0, .ref b), (1, .ref (ad 0 0)), (2, .ref (ad 17 0)), (3, .ref (ad 17 1)), (4, .ref (ad 17 2)), (5, .ref (ad 17 3)), (6, .ref (ad 17 4)), (7, .ref (ad 17 5)), (8, .ref (ad 17 6)), (9, .ref (ad 17 7)), (10, .ref (ad 17 8)), (11, .ref (ad 17 9)), (12, .ref (ad 17 10)), (14, .int (nI i)), (15, .int (nI wq)), (16, .int (nI x1)), (17, .int (nI x2)), (18, .int (nI uq)), (19, .int (bI (decide (uq < S.2 0 0))))]) hx hb dL_law_835 hl (by decide) rfl (fun ls hl => ?_)
                      refine lv_goto (tgt := 1231) hx hb dL_law_837 (by decide) ?_
                      refine W.widen (k := 1100 * i + 240) (n := 8000 * i + 10000) (by omega) (by omega) ?_
                      exact K _ _ _ _ _ _ ((hI.junk (Int32.add_zero _)).mid (by omega)) X (lv_sub hl [5, 6, 7, 8, 9, 10, 11, 12, 13, 14, 15, 16, 17, 0, 18, 20] rfl)
              · exact absurd c_778 (by decide)
            · exact absurd c_755 (by decide)
          | true =>
            rw [hcn] at hl
            have hcn0 := hcn
            rw [Bool.and_eq_true, decide_eq_true_eq, decide_eq_true_eq] at hcn0
            obtain ⟨hc6, hcr⟩ := hcn0
            rw [decide_eq_true hcr] at hl
            refine lv_aload hx hb dL_law_751 (lv_at hl 11 rfl) ?_
            refine lv_iload hx hb dL_law_753 (lv_at hl 0 rfl) ?_
            refine lv_if_eq (tgt := 763) hx hb dL_law_755 (by decide) (fun c_755 => ?_) (fun c_755 => ?_)
            · exact absurd c_755 (by decide)
            · refine lv_iload hx hb dL_law_758 (lv_at hl 3 rfl) ?_
              refine lv_goto (tgt := 765) hx hb dL_law_760 (by decide) ?_
              refine lv_dup2_11 hx hb dL_law_765 rfl rfl ?_
              refine k_ild (ad := ad) (k := 17) (i := 5) Z X ct_17_5 (vp_in_nI (n := ch) (by first | assumption | omega) (by decide)) dL_law_766 ?_
              refine lv_topi (fun x_766 e_766 => ?_)
              obtain rfl : x_766 = T.1 6 ch := e_766.trans (by first | (simp only [nI_clamp (show ch < 2 ^ 31 by omega)]; done) | rfl | (simp only [nI_clamp (show ch < 2 ^ 31 by omega)]; rfl) | (simp only [nI_clamp (show ch < 2 ^ 31 by omega)]; simp [sI, sN]; done))
              refine lv_topi (fun x_766 e_766 => ?_)
              obtain rfl : x_766 = S.1 3 ch := e_766.trans (hT.b (by omega))
              refine lv_iload hx hb dL_law_767 (lv_at hl 2 rfl) ?_
              refine lv_iadd hx hb dL_law_769 ?_
              refine k_ist (ad := ad) (k := 17) (i := 5) Z X ct_17_5 (vp_in_nI (n := ch) (by first | assumption | omega) (by decide)) dL_law_770 (fun H locs X => ?_)
              have X : kX E G s H locs ad (cto G S (sI T 6 ch ((S.1 3 ch) + (nI ca))) o ad) := X.eq (st_17 (a := 5) (by decide) ch _ (by omega))
              refine lv_aload hx hb dL_law_771 (lv_at hl 16 rfl) ?_
              refine lv_iconst (v := 5) hx hb dL_law_773 (by decide) ?_
              refine lv_dup2_11 hx hb dL_law_774 rfl rfl ?_
              refine k_ild (ad := ad) (k := 17) (i := 10) Z X ct_17_10 (vp_in_nI (n := 5) (by first | assumption | omega) (by decide)) dL_law_775 ?_
              refine lv_topi (fun x_775 e_775 => ?_)
              obtain rfl : x_775 = T.1 11 5 := e_775.trans (by first | (simp only [nI_clamp (show 5 < 2 ^ 31 by omega)]; done) | rfl | (simp only [nI_clamp (show 5 < 2 ^ 31 by omega)]; rfl) | (simp only [nI_clamp (show 5 < 2 ^ 31 by omega)]; simp [sI, sN]; done))
              refine lv_iload hx hb dL_law_776 (lv_at hl 0 rfl) ?_
              refine lv_if_eq (tgt := 786) hx hb dL_law_778 (by decide) (fun c_778 => ?_) (fun c_778 => ?_)
              · exact absurd c_778 (by decide)
              · refine lv_iload hx hb dL_law_781 (lv_at hl 2 rfl) ?_
                refine lv_goto (tgt := 787) hx hb dL_law_783 (by decide) ?_
                refine lv_iadd hx hb dL_law_787 ?_
                refine k_ist (ad := ad) (k := 17) (i := 10) Z X ct_17_10 (vp_in_nI (n := 5) (by first | assumption | omega) (by decide)) dL_law_788 (fun H locs X => ?_)
                have X : kX E G s H locs ad (cto G S (sI (sI T 6 ch ((S.1 3 ch) + (nI ca))) 11 5 ((T.1 11 5) + (nI ca))) o ad) := X.eq (st_17 (a := 10) (by decide) 5 _ (by omega))
                refine lv_aload_n hx hb dL_law_789 rfl (lv_at hl 5 rfl) ?_
                refine lv_iconst (v := 3) hx hb dL_law_790 (by decide) ?_
                refine lv_iload hx hb dL_law_791 (lv_at hl 3 rfl) ?_
                refine lv_iload hx hb dL_law_793 (lv_at hl 2 rfl) ?_
                refine lv_iconst (v := 0) hx hb dL_law_795 (by decide) ?_
                refine lv_iconst (v := 0) hx hb dL_law_796 (by decide) ?_
                refine k_xRi X (k_xrunSW (As := [.ref (ad 0 0), .int 3, .int (nI ch), .int (nI ca), .int 0, .int 0]) (rest := []) Z X (c_L_does_3 l E G S (sI (sI T 6 ch ((S.1 3 ch) + (nI ca))) 11 5 ((T.1 11 5) + (nI ca))) o ad (nI ch) (nI ca) 0 0 hE hS hL) (k_cwSW 6 Z.1.2.2.2.2 (inU_6 _ (List.mem_of_getElem? (i := 3) rfl)) (inU_6 _ (List.mem_of_getElem? (i := 4) rfl)) (inU_6 _ (List.mem_of_getElem? (i := 5) rfl)) (inU_6 _ (List.mem_of_getElem? (i := 6) rfl)) rfl rfl (by decide +kernel) ⟨(Nat.le_of_ble_eq_true rfl), (Nat.le_of_ble_eq_true rfl)⟩) rfl hl.1 rfl (Nat.le_of_ble_eq_true rfl) dL_law_797 ⟨(by first | exact rm_c (by omega) | exact rm_s (by omega)), (by first | exact rm_c (by omega) | exact rm_s (by omega))⟩) (fun _ _ _ _ _ _ _ hp => hp.elim) (fun r_797 ad1 ct1 H locs hp X => ?_)
                have hC : cBudget S (nI ch) (nI ca) = 0 := by rw [cBudget_v hI.2 (by omega) (by omega) (by omega), if_pos hc6, if_pos hcr]
                obtain ⟨ha_, hq⟩ := hp
                rcases hq with ⟨z, hr_, S1, hS1, hb_⟩ | ⟨z, -⟩ | ⟨z, -⟩ | ⟨z, -⟩
                case inr.inl => exact absurd (hC.symm.trans z) (by decide)
                case inr.inr.inl => exact absurd (hC.symm.trans z) (by decide)
                case inr.inr.inr => exact absurd (hC.symm.trans z) (by decide)
                subst hr_
                rw [hb_, ← ha_, show S1 = (oBudget S (nI ch) (nI ca)) from hS1] at X
                refine lv_topi (fun y_797 f_797 => ?_)
                obtain rfl : y_797 = S.1 3 ch + nI ca := f_797.trans (by rw [cl_n (show ch < 2 ^ 31 by omega)])
                refine lv_iload hx hb dL_law_800 (lv_at hl 3 rfl) ?_
                refine lv_bipush (v := 6) hx hb dL_law_802 (by decide) ?_
                refine lv_icmp_ne (tgt := 812) hx hb dL_law_804 (by decide) (fun c_804 => ?_) (fun c_804 => ?_)
                · refine lv_iload hx hb dL_law_812 (lv_at hl 1 rfl) ?_
                  refine lv_if_eq (tgt := 825) hx hb dL_law_814 (by decide) (fun c_814 => ?_) (fun c_814 => ?_)
                  · exact absurd c_814 (by decide)
                  · refine lv_aload hx hb dL_law_817 (lv_at hl 11 rfl) ?_
                    refine lv_iload hx hb dL_law_819 (lv_at hl 3 rfl) ?_
                    refine k_ild (ad := ad) (k := 17) (i := 5) Z X ct_17_5 (vp_in_nI (n := ch) (by first | assumption | omega) (by decide)) dL_law_821 ?_
                    refine lv_topi (fun x_821 e_821 => ?_)
                    obtain rfl : x_821 = (S.1 3 ch) + (nI ca) := e_821.trans (by first | (simp only [nI_clamp (show ch < 2 ^ 31 by omega)]; done) | rfl | (simp only [nI_clamp (show ch < 2 ^ 31 by omega)]; rfl) | (simp only [nI_clamp (show ch < 2 ^ 31 by omega)]; simp [sI, sN]; done))
                    refine lv_goto (tgt := 827) hx hb dL_law_822 (by decide) ?_
                    refine lv_icmp_ne (tgt := 834) hx hb dL_law_827 (by decide) (fun c_827 => ?_) (fun c_827 => ?_)
                    · exact absurd rfl c_827
                    · refine lv_iconst (v := 1) hx hb dL_law_830 (by decide) ?_
                      refine lv_goto (tgt := 835) hx hb dL_law_831 (by decide) ?_
                      refine lv_istore (lv' := [(13, .int 1), (23, .int (bI true)), (22, .int (bI true)), (21, .int (nI ca)), (20, .int (nI ch)), (0, .ref b), (1, .ref (ad 0 0)), (2, .ref (ad 17 0)), (3, .ref (ad 17 1)), (4, .ref (ad 17 2)), (5, .ref (ad 17 3)), (6, .ref (ad 17 4)), (7, .ref (ad 17 5)), (8, .ref (ad 17 6)), (9, .ref (ad 17 7)), (10, .ref (ad 17 8)), (11, .ref (ad 17 9)), (12, .ref (ad 17 10)), (14, .int (nI i)), (15, .int (nI wq)), (16, .int (nI x1)), (17, .int (nI x2)), (18, .int (nI uq)), (19, .int (bI (decide (uq < S.2 0 0))))]) hx hb dL_law_835 hl (by decide) rfl (fun ls hl => ?_)
                      refine lv_goto (tgt := 1231) hx hb dL_law_837 (by decide) ?_
                      refine W.widen (k := 1100 * i + 240) (n := 8000 * i + 10000) (by omega) (by omega) ?_
                      exact K _ _ _ _ _ _ (Mid.budget hI hc6 hcr) X (lv_sub hl [5, 6, 7, 8, 9, 10, 11, 12, 13, 14, 15, 16, 17, 0, 18, 20] rfl)
                · exact absurd ((nI_eq (a := ch) (b := 6) (by omega) (by omega)).mp c_804) (by omega)
        refine lv_iload hx hb dL_law_732 (lv_at hl 2 rfl) ?_
        refine lv_bipush (v := 6) hx hb dL_law_734 (by decide) ?_
        refine lv_icmp_ge (tgt := 748) hx hb dL_law_736 (by decide) (fun c_736 => ?_) (fun c_736 => ?_)
        · have c_736 : 6 ≤ ch := (nI_leI (a := 6) (b := ch) (by omega) (by omega)).mp c_736
          refine lv_iconst (v := 0) hx hb dL_law_748 (by decide) ?_
          exact W.eq (congrArg (fun z => F0 m 749 ls (.int z :: [])) (bI_f (by rw [decide_eq_false (show ¬ ch < 6 by omega)]; rfl))) (M_749 _ _ X)
        · have c_736 : ¬ 6 ≤ ch := fun h => c_736 ((nI_leI (a := 6) (b := ch) (by omega) (by omega)).mpr h)
          refine lv_iload hx hb dL_law_739 (lv_at hl 0 rfl) ?_
          refine lv_if_eq (tgt := 748) hx hb dL_law_741 (by decide) (fun c_741 => ?_) (fun c_741 => ?_)
          · have c_741 : (decide (ca < 1000001)) = false := bI_0 c_741
            refine lv_iconst (v := 0) hx hb dL_law_748 (by decide) ?_
            exact W.eq (congrArg (fun z => F0 m 749 ls (.int z :: [])) (bI_f (by rw [c_741, Bool.and_false]))) (M_749 _ _ X)
          · have c_741 : (decide (ca < 1000001)) = true := bI_1 c_741
            refine lv_iconst (v := 1) hx hb dL_law_744 (by decide) ?_
            refine lv_goto (tgt := 749) hx hb dL_law_745 (by decide) ?_
            exact W.eq (congrArg (fun z => F0 m 749 ls (.int z :: [])) (bI_t (by rw [decide_eq_true (show ch < 6 by omega), c_741]; rfl))) (M_749 _ _ X)
      refine lv_iload hx hb dL_law_718 (lv_at hl 0 rfl) ?_
      refine lv_ldc (v := 1000001) hx hb Z.1.2.2.2.1 (Z.1.2.2.2.2 _ (inU_1 _ (List.mem_of_getElem? (i := 7) rfl))) dL_law_720 ?_
      refine lv_icmp_ge (tgt := 729) hx hb dL_law_722 (by decide) (fun c_722 => ?_) (fun c_722 => ?_)
      · have c_722 : 1000001 ≤ ca := (nI_leI (a := 1000001) (b := ca) (by omega) (by omega)).mp c_722
        refine lv_iconst (v := 0) hx hb dL_law_729 (by decide) ?_
        exact W.eq (congrArg (fun z => F0 m 730 ls (.int z :: [])) (bI_f (decide_eq_false (by omega)))) (M_730 _ _ X)
      · have c_722 : ¬ 1000001 ≤ ca := fun h => c_722 ((nI_leI (a := 1000001) (b := ca) (by omega) (by omega)).mpr h)
        refine lv_iconst (v := 1) hx hb dL_law_725 (by decide) ?_
        refine lv_goto (tgt := 730) hx hb dL_law_726 (by decide) ?_
        exact W.eq (congrArg (fun z => F0 m 730 ls (.int z :: [])) (bI_t (decide_eq_true (by omega)))) (M_730 _ _ X)
    refine lv_iload hx hb dL_law_695 (lv_at hl 17 rfl) ?_
    refine lv_iconst (v := 3) hx hb dL_law_697 (by decide) ?_
    refine lv_irem hx hb dL_law_698 (by decide) ?_
    refine lv_topi (fun x_698 e_698 => ?_)
    obtain rfl : x_698 = nI (x1 % 3) := e_698.trans ((pk_rem (a := x1) (d := 3) (by omega) (by omega) (by omega)))
    refine lv_if_ne (tgt := 710) hx hb dL_law_699 (by decide) (fun c_699 => ?_) (fun c_699 => ?_)
    · have c_699 : ¬ x1 % 3 = 0 := fun h => c_699 ((nI_eq (a := x1 % 3) (b := 0) (by omega) (by omega)).mpr h)
      refine lv_iload hx hb dL_law_710 (lv_at hl 17 rfl) ?_
      refine lv_sipush (v := 4000) hx hb dL_law_712 (by decide) ?_
      refine lv_irem hx hb dL_law_715 (by decide) ?_
      refine lv_topi (fun x_715 e_715 => ?_)
      obtain rfl : x_715 = nI (x1 % 4000) := e_715.trans ((pk_rem (a := x1) (d := 4000) (by omega) (by omega) (by omega)))
      exact W.eq (congrArg (fun z => F0 m 716 ls (.int z :: [])) ((by rw [eca]; unfold cnB; (first | rw [if_pos (show x1 % 3 = 0 by omega)] | rw [if_neg (show ¬ x1 % 3 = 0 by omega)]) <;> first | rfl | exact m1_s _ | exact (m1_s _).symm | decide))) (M_716 _ _ X)
    · have c_699 : x1 % 3 = 0 := (nI_eq (a := x1 % 3) (b := 0) (by omega) (by omega)).mp c_699
      refine lv_iload hx hb dL_law_702 (lv_at hl 17 rfl) ?_
      refine lv_bipush (v := 17) hx hb dL_law_704 (by decide) ?_
      refine lv_imul hx hb dL_law_706 ?_
      refine lv_topi (fun x_706 e_706 => ?_)
      obtain rfl : x_706 = nI (x1 * 17) := e_706.trans (pk_mul x1 17)
      refine lv_goto (tgt := 716) hx hb dL_law_707 (by decide) ?_
      exact W.eq (congrArg (fun z => F0 m 716 ls (.int z :: [])) ((by rw [eca]; unfold cnB; (first | rw [if_pos (show x1 % 3 = 0 by omega)] | rw [if_neg (show ¬ x1 % 3 = 0 by omega)]) <;> first | rfl | exact m1_s _ | exact (m1_s _).symm | decide))) (M_716 _ _ X)
  refine lv_iload hx hb dL_law_674 (lv_at hl 14 rfl) ?_
  refine lv_bipush (v := 7) hx hb dL_law_676 (by decide) ?_
  refine lv_icmp_ge (tgt := 688) hx hb dL_law_678 (by decide) (fun c_678 => ?_) (fun c_678 => ?_)
  · have c_678 : 7 ≤ i := (nI_leI (a := 7) (b := i) (by omega) (by omega)).mp c_678
    refine lv_iload hx hb dL_law_688 (lv_at hl 17 rfl) ?_
    refine lv_bipush (v := 7) hx hb dL_law_690 (by decide) ?_
    refine lv_irem hx hb dL_law_692 (by decide) ?_
    refine lv_topi (fun x_692 e_692 => ?_)
    obtain rfl : x_692 = nI (x2 % 7) := e_692.trans ((pk_rem (a := x2) (d := 7) (by omega) (by omega) (by omega)))
    exact W.eq (congrArg (fun z => F0 m 693 ls (.int z :: [])) ((by rw [ech]; unfold chB; (first | rw [if_pos (show i < 7 by omega)] | rw [if_neg (show ¬ i < 7 by omega)]) <;> first | rfl | exact m1_s _ | exact (m1_s _).symm | decide))) (M_693 _ _ X)
  · have c_678 : ¬ 7 ≤ i := fun h => c_678 ((nI_leI (a := 7) (b := i) (by omega) (by omega)).mpr h)
    refine lv_iload hx hb dL_law_681 (lv_at hl 14 rfl) ?_
    refine lv_iconst (v := 2) hx hb dL_law_683 (by decide) ?_
    refine lv_irem hx hb dL_law_684 (by decide) ?_
    refine lv_topi (fun x_684 e_684 => ?_)
    obtain rfl : x_684 = nI (i % 2) := e_684.trans ((pk_rem (a := i) (d := 2) (by omega) (by omega) (by omega)))
    refine lv_goto (tgt := 693) hx hb dL_law_685 (by decide) ?_
    exact W.eq (congrArg (fun z => F0 m 693 ls (.int z :: [])) ((by rw [ech]; unfold chB; (first | rw [if_pos (show i < 7 by omega)] | rw [if_neg (show ¬ i < 7 by omega)]) <;> first | rfl | exact m1_s _ | exact (m1_s _).symm | decide))) (M_693 _ _ X)
set_option maxHeartbeats 4000000 in
set_option maxRecDepth 100000 in
theorem a_msg {p : Program} {l : Launch} {e : Env} {s : State} {m : MethodId} {below : List Frame} {meth : Method} {c : Code} {E : State} {G : kG} {o : Int64} {Q : State → Prop} {b i : Nat} {S T : kSt} {ad : kAd} {x1 x2 wq uq : Nat} (hE : kE l E G) (Z : kZ p m c code 24 s #[Value.ref b] wsL_law RL E G) (hi : i < 64) (hx1 : x1 < 60000) (hx2 : x2 < 60000) (hwq : wq < 32) (hI : Iv i S T) (huq : uq ≤ S.2 0 0) (K : lwF p l e s m below meth c E G b i x1 o Q) : ∀ (H : Heap) (locs : List Loc) (ls : Array Slot), kX E G s H locs ad (cto G S T o ad) → lv_has ls 24 [(0, .ref b), (1, .ref (ad 0 0)), (2, .ref (ad 17 0)), (3, .ref (ad 17 1)), (4, .ref (ad 17 2)), (5, .ref (ad 17 3)), (6, .ref (ad 17 4)), (7, .ref (ad 17 5)), (8, .ref (ad 17 6)), (9, .ref (ad 17 7)), (10, .ref (ad 17 8)), (11, .ref (ad 17 9)), (12, .ref (ad 17 10)), (13, .int 1), (14, .int (nI i)), (15, .int (nI wq)), (16, .int (nI x1)), (17, .int (nI x2)), (18, .int (nI uq)), (19, .int (bI (decide (uq < S.2 0 0))))] → W p l e room_1 s m #[Value.ref b] below meth c H locs (1100 * i + 200) (8000 * i + 9000) Q (F0 m 847 ls []) := by
  intro H locs ls X hl
  have hx := Z.1.1
  have hb := Z.1.2.1
  have hT := hI.lt
  obtain ⟨hS, hL, hK9, hLg, hRp, hlog9, hB⟩ := hI.1.ok
  have hN := hS
  have hlog : S.2 0 4 < 512 := by omega
  obtain ⟨hc0, hc1, hc2, hc3⟩ := hT.c
  refine lv_aload_n hx hb dL_law_847 rfl (lv_at hl 1 rfl) ?_
  refine lv_aload_n hx hb dL_law_848 rfl (lv_at hl 2 rfl) ?_
  refine lv_aload_n hx hb dL_law_849 rfl (lv_at hl 3 rfl) ?_
  refine lv_aload hx hb dL_law_850 (lv_at hl 4 rfl) ?_
  refine lv_aload hx hb dL_law_852 (lv_at hl 5 rfl) ?_
  refine lv_aload hx hb dL_law_854 (lv_at hl 6 rfl) ?_
  refine lv_aload hx hb dL_law_856 (lv_at hl 10 rfl) ?_
  refine lv_aload hx hb dL_law_858 (lv_at hl 12 rfl) ?_
  refine lv_iload hx hb dL_law_860 (lv_at hl 15 rfl) ?_
  refine lv_bipush (v := 7) hx hb dL_law_862 (by decide) ?_
  refine lv_icmp_ge (tgt := 871) hx hb dL_law_864 (by decide) (fun c_864 => ?_) (fun c_864 => ?_)
  · have c_864 : 7 ≤ wq := (nI_leI (a := 7) (b := wq) (by omega) (by omega)).mp c_864
    refine lv_iload hx hb dL_law_871 (lv_at hl 15 rfl) ?_
    refine lv_bipush (v := 7) hx hb dL_law_873 (by decide) ?_
    refine lv_icmp_ne (tgt := 882) hx hb dL_law_875 (by decide) (fun c_875 => ?_) (fun c_875 => ?_)
    · have c_875 : ¬ wq = 7 := fun h => c_875 ((nI_eq (a := wq) (b := 7) (by omega) (by omega)).mpr h)
      refine lv_iconst (v := 3) hx hb dL_law_882 (by decide) ?_
      refine lv_iload hx hb dL_law_883 (lv_at hl 16 rfl) ?_
      refine lv_iload hx hb dL_law_885 (lv_at hl 17 rfl) ?_
      refine k_xRi X (k_xrunS (As := [.ref (ad 0 0), .ref (ad 17 0), .ref (ad 17 1), .ref (ad 17 2), .ref (ad 17 3), .ref (ad 17 4), .ref (ad 17 8), .ref (ad 17 10), .int 3, .int (nI x1), .int (nI x2)]) (rest := []) Z X (c_L_isMessage_3 l E G S T o ad hE (by omega) hx1 hx2 hI) (k_cwS 11 Z.1.2.2.2.2 (inU_27 _ (List.mem_of_getElem? (i := 6) rfl)) (inU_27 _ (List.mem_of_getElem? (i := 7) rfl)) (inU_6 _ (List.mem_of_getElem? (i := 5) rfl)) (inU_27 _ (List.mem_of_getElem? (i := 8) rfl)) rfl rfl (by decide +kernel) ⟨Nat.le_of_ble_eq_true rfl, Nat.le_of_ble_eq_true rfl⟩) rfl hl.1 rfl (Nat.le_of_ble_eq_true rfl) dL_law_887 ⟨(by first | exact rm_c (by omega) | exact rm_s (by omega)), (by first | exact rm_c (by omega) | exact rm_s (by omega))⟩) (fun _ _ _ _ _ _ _ hp => hp.elim) (fun r_887 ad1 ct1 H locs hp X => ?_)
      obtain ⟨⟨hr_, hAK⟩, S1, A1, hb_, hM⟩ := hp
      subst hr_
      rw [hb_] at X
      rw [← hAK.1] at hl
      rw [← hAK.2.2 0] at hl
      rw [← hAK.2.2 1] at hl
      rw [← hAK.2.2 2] at hl
      rw [← hAK.2.2 3] at hl
      rw [← hAK.2.2 4] at hl
      rw [← hAK.2.2 5] at hl
      rw [← hAK.2.2 6] at hl
      rw [← hAK.2.2 7] at hl
      rw [← hAK.2.2 8] at hl
      rw [← hAK.2.2 9] at hl
      rw [← hAK.2.2 10] at hl
      refine lv_istore (lv' := [(13, .int 1), (0, .ref b), (1, .ref (ad1 0 0)), (2, .ref (ad1 17 0)), (3, .ref (ad1 17 1)), (4, .ref (ad1 17 2)), (5, .ref (ad1 17 3)), (6, .ref (ad1 17 4)), (7, .ref (ad1 17 5)), (8, .ref (ad1 17 6)), (9, .ref (ad1 17 7)), (10, .ref (ad1 17 8)), (11, .ref (ad1 17 9)), (12, .ref (ad1 17 10)), (14, .int (nI i)), (15, .int (nI wq)), (16, .int (nI x1)), (17, .int (nI x2)), (18, .int (nI uq)), (19, .int (bI (decide (uq < S.2 0 0))))]) hx hb dL_law_890 hl (by decide) rfl (fun ls hl => ?_)
      refine lv_goto (tgt := 1231) hx hb dL_law_892 (by decide) ?_
      refine W.widen (k := 1100 * i + 240) (n := 8000 * i + 10000) (by omega) (by omega) ?_
      exact K _ _ _ _ _ _ (hM) X (lv_sub hl [1, 2, 3, 4, 5, 6, 7, 8, 9, 10, 11, 12, 13, 0, 14, 16] rfl)
    · have c_875 : wq = 7 := (nI_eq (a := wq) (b := 7) (by omega) (by omega)).mp c_875
      refine lv_iconst (v := 1) hx hb dL_law_878 (by decide) ?_
      refine lv_goto (tgt := 883) hx hb dL_law_879 (by decide) ?_
      refine lv_iload hx hb dL_law_883 (lv_at hl 16 rfl) ?_
      refine lv_iload hx hb dL_law_885 (lv_at hl 17 rfl) ?_
      refine k_xRi X (k_xrunS (As := [.ref (ad 0 0), .ref (ad 17 0), .ref (ad 17 1), .ref (ad 17 2), .ref (ad 17 3), .ref (ad 17 4), .ref (ad 17 8), .ref (ad 17 10), .int 1, .int (nI x1), .int (nI x2)]) (rest := []) Z X (c_L_isMessage_1 l E G S T o ad hE (by omega) hx1 hx2 hI) (k_cwS 11 Z.1.2.2.2.2 (inU_27 _ (List.mem_of_getElem? (i := 6) rfl)) (inU_27 _ (List.mem_of_getElem? (i := 7) rfl)) (inU_6 _ (List.mem_of_getElem? (i := 5) rfl)) (inU_27 _ (List.mem_of_getElem? (i := 8) rfl)) rfl rfl (by decide +kernel) ⟨Nat.le_of_ble_eq_true rfl, Nat.le_of_ble_eq_true rfl⟩) rfl hl.1 rfl (Nat.le_of_ble_eq_true rfl) dL_law_887 ⟨(by first | exact rm_c (by omega) | exact rm_s (by omega)), (by first | exact rm_c (by omega) | exact rm_s (by omega))⟩) (fun _ _ _ _ _ _ _ hp => hp.elim) (fun r_887 ad1 ct1 H locs hp X => ?_)
      obtain ⟨⟨hr_, hAK⟩, S1, A1, hb_, hM⟩ := hp
      subst hr_
      rw [hb_] at X
      rw [← hAK.1] at hl
      rw [← hAK.2.2 0] at hl
      rw [← hAK.2.2 1] at hl
      rw [← hAK.2.2 2] at hl
      rw [← hAK.2.2 3] at hl
      rw [← hAK.2.2 4] at hl
      rw [← hAK.2.2 5] at hl
      rw [← hAK.2.2 6] at hl
      rw [← hAK.2.2 7] at hl
      rw [← hAK.2.2 8] at hl
      rw [← hAK.2.2 9] at hl
      rw [← hAK.2.2 10] at hl
      refine lv_istore (lv' := [(13, .int 1), (0, .ref b), (1, .ref (ad1 0 0)), (2, .ref (ad1 17 0)), (3, .ref (ad1 17 1)), (4, .ref (ad1 17 2)), (5, .ref (ad1 17 3)), (6, .ref (ad1 17 4)), (7, .ref (ad1 17 5)), (8, .ref (ad1 17 6)), (9, .ref (ad1 17 7)), (10, .ref (ad1 17 8)), (11, .ref (ad1 17 9)), (12, .ref (ad1 17 10)), (14, .int (nI i)), (15, .int (nI wq)), (16, .int (nI x1)), (17, .int (nI x2)), (18, .int (nI uq)), (19, .int (bI (decide (uq < S.2 0 0))))]) hx hb dL_law_890 hl (by decide) rfl (fun ls hl => ?_)
      refine lv_goto (tgt := 1231) hx hb dL_law_892 (by decide) ?_
      refine W.widen (k := 1100 * i + 240) (n := 8000 * i + 10000) (by omega) (by omega) ?_
      exact K _ _ _ _ _ _ (hM) X (lv_sub hl [1, 2, 3, 4, 5, 6, 7, 8, 9, 10, 11, 12, 13, 0, 14, 16] rfl)
  · have c_864 : ¬ 7 ≤ wq := fun h => c_864 ((nI_leI (a := 7) (b := wq) (by omega) (by omega)).mpr h)
    refine lv_iconst (v := 0) hx hb dL_law_867 (by decide) ?_
    refine lv_goto (tgt := 883) hx hb dL_law_868 (by decide) ?_
    refine lv_iload hx hb dL_law_883 (lv_at hl 16 rfl) ?_
    refine lv_iload hx hb dL_law_885 (lv_at hl 17 rfl) ?_
    refine k_xRi X (k_xrunS (As := [.ref (ad 0 0), .ref (ad 17 0), .ref (ad 17 1), .ref (ad 17 2), .ref (ad 17 3), .ref (ad 17 4), .ref (ad 17 8), .ref (ad 17 10), .int 0, .int (nI x1), .int (nI x2)]) (rest := []) Z X (c_L_isMessage_0 l E G S T o ad hE (by omega) hx1 hx2 hI) (k_cwS 11 Z.1.2.2.2.2 (inU_27 _ (List.mem_of_getElem? (i := 6) rfl)) (inU_27 _ (List.mem_of_getElem? (i := 7) rfl)) (inU_6 _ (List.mem_of_getElem? (i := 5) rfl)) (inU_27 _ (List.mem_of_getElem? (i := 8) rfl)) rfl rfl (by decide +kernel) ⟨Nat.le_of_ble_eq_true rfl, Nat.le_of_ble_eq_true rfl⟩) rfl hl.1 rfl (Nat.le_of_ble_eq_true rfl) dL_law_887 ⟨(by first | exact rm_c (by omega) | exact rm_s (by omega)), (by first | exact rm_c (by omega) | exact rm_s (by omega))⟩) (fun _ _ _ _ _ _ _ hp => hp.elim) (fun r_887 ad1 ct1 H locs hp X => ?_)
    obtain ⟨⟨hr_, hAK⟩, S1, A1, hb_, hM⟩ := hp
    subst hr_
    rw [hb_] at X
    rw [← hAK.1] at hl
    rw [← hAK.2.2 0] at hl
    rw [← hAK.2.2 1] at hl
    rw [← hAK.2.2 2] at hl
    rw [← hAK.2.2 3] at hl
    rw [← hAK.2.2 4] at hl
    rw [← hAK.2.2 5] at hl
    rw [← hAK.2.2 6] at hl
    rw [← hAK.2.2 7] at hl
    rw [← hAK.2.2 8] at hl
    rw [← hAK.2.2 9] at hl
    rw [← hAK.2.2 10] at hl
    refine lv_istore (lv' := [(13, .int 1), (0, .ref b), (1, .ref (ad1 0 0)), (2, .ref (ad1 17 0)), (3, .ref (ad1 17 1)), (4, .ref (ad1 17 2)), (5, .ref (ad1 17 3)), (6, .ref (ad1 17 4)), (7, .ref (ad1 17 5)), (8, .ref (ad1 17 6)), (9, .ref (ad1 17 7)), (10, .ref (ad1 17 8)), (11, .ref (ad1 17 9)), (12, .ref (ad1 17 10)), (14, .int (nI i)), (15, .int (nI wq)), (16, .int (nI x1)), (17, .int (nI x2)), (18, .int (nI uq)), (19, .int (bI (decide (uq < S.2 0 0))))]) hx hb dL_law_890 hl (by decide) rfl (fun ls hl => ?_)
    refine lv_goto (tgt := 1231) hx hb dL_law_892 (by decide) ?_
    refine W.widen (k := 1100 * i + 240) (n := 8000 * i + 10000) (by omega) (by omega) ?_
    exact K _ _ _ _ _ _ (hM) X (lv_sub hl [1, 2, 3, 4, 5, 6, 7, 8, 9, 10, 11, 12, 13, 0, 14, 16] rfl)
set_option maxHeartbeats 4000000 in
set_option maxRecDepth 100000 in
theorem a_spend {p : Program} {l : Launch} {e : Env} {s : State} {m : MethodId} {below : List Frame} {meth : Method} {c : Code} {E : State} {G : kG} {o : Int64} {Q : State → Prop} {b i : Nat} {S T : kSt} {ad : kAd} {x1 x2 wq uq : Nat} (hE : kE l E G) (Z : kZ p m c code 24 s #[Value.ref b] wsL_law RL E G) (hi : i < 64) (hx1 : x1 < 60000) (hx2 : x2 < 60000) (hwq : wq < 32) (hI : Iv i S T) (huq : uq ≤ S.2 0 0) (K : lwF p l e s m below meth c E G b i x1 o Q) : ∀ (H : Heap) (locs : List Loc) (ls : Array Slot), kX E G s H locs ad (cto G S T o ad) → lv_has ls 24 [(0, .ref b), (1, .ref (ad 0 0)), (2, .ref (ad 17 0)), (3, .ref (ad 17 1)), (4, .ref (ad 17 2)), (5, .ref (ad 17 3)), (6, .ref (ad 17 4)), (7, .ref (ad 17 5)), (8, .ref (ad 17 6)), (9, .ref (ad 17 7)), (10, .ref (ad 17 8)), (11, .ref (ad 17 9)), (12, .ref (ad 17 10)), (13, .int 1), (14, .int (nI i)), (15, .int (nI wq)), (16, .int (nI x1)), (17, .int (nI x2)), (18, .int (nI uq)), (19, .int (bI (decide (uq < S.2 0 0))))] → W p l e room_1 s m #[Value.ref b] below meth c H locs (1100 * i + 200) (8000 * i + 9000) Q (F0 m 902 ls []) := by
  intro H locs ls X hl
  have hx := Z.1.1
  have hb := Z.1.2.1
  have hT := hI.lt
  obtain ⟨hS, hL, hK9, hLg, hRp, hlog9, hB⟩ := hI.1.ok
  have hN := hS
  have hlog : S.2 0 4 < 512 := by omega
  obtain ⟨hc0, hc1, hc2, hc3⟩ := hT.c
  refine lv_aload_n hx hb dL_law_902 rfl (lv_at hl 1 rfl) ?_
  refine lv_aload_n hx hb dL_law_903 rfl (lv_at hl 2 rfl) ?_
  refine lv_aload_n hx hb dL_law_904 rfl (lv_at hl 3 rfl) ?_
  refine lv_aload hx hb dL_law_905 (lv_at hl 4 rfl) ?_
  refine lv_aload hx hb dL_law_907 (lv_at hl 6 rfl) ?_
  refine lv_aload hx hb dL_law_909 (lv_at hl 7 rfl) ?_
  refine lv_aload hx hb dL_law_911 (lv_at hl 8 rfl) ?_
  refine lv_aload hx hb dL_law_913 (lv_at hl 9 rfl) ?_
  refine lv_aload hx hb dL_law_915 (lv_at hl 10 rfl) ?_
  refine lv_aload hx hb dL_law_917 (lv_at hl 11 rfl) ?_
  refine lv_aload hx hb dL_law_919 (lv_at hl 12 rfl) ?_
  refine lv_iload hx hb dL_law_921 (lv_at hl 15 rfl) ?_
  refine lv_bipush (v := 22) hx hb dL_law_923 (by decide) ?_
  refine lv_icmp_ge (tgt := 932) hx hb dL_law_925 (by decide) (fun c_925 => ?_) (fun c_925 => ?_)
  · have c_925 : 22 ≤ wq := (nI_leI (a := 22) (b := wq) (by omega) (by omega)).mp c_925
    refine lv_iload hx hb dL_law_932 (lv_at hl 15 rfl) ?_
    refine lv_bipush (v := 25) hx hb dL_law_934 (by decide) ?_
    refine lv_icmp_ge (tgt := 943) hx hb dL_law_936 (by decide) (fun c_936 => ?_) (fun c_936 => ?_)
    · have c_936 : 25 ≤ wq := (nI_leI (a := 25) (b := wq) (by omega) (by omega)).mp c_936
      refine lv_iconst (v := 2) hx hb dL_law_943 (by decide) ?_
      refine lv_iload hx hb dL_law_944 (lv_at hl 16 rfl) ?_
      refine lv_iload hx hb dL_law_946 (lv_at hl 17 rfl) ?_
      refine k_xRi X (k_xrunS (As := [.ref (ad 0 0), .ref (ad 17 0), .ref (ad 17 1), .ref (ad 17 2), .ref (ad 17 4), .ref (ad 17 5), .ref (ad 17 6), .ref (ad 17 7), .ref (ad 17 8), .ref (ad 17 9), .ref (ad 17 10), .int 2, .int (nI x1), .int (nI x2)]) (rest := []) Z X (c_L_isSpend_2 l E G S T o ad hE (by omega) hx1 hx2 hI) (k_cwS 14 Z.1.2.2.2.2 (inU_27 _ (List.mem_of_getElem? (i := 17) rfl)) (inU_27 _ (List.mem_of_getElem? (i := 18) rfl)) (inU_6 _ (List.mem_of_getElem? (i := 5) rfl)) (inU_27 _ (List.mem_of_getElem? (i := 19) rfl)) rfl rfl (by decide +kernel) ⟨Nat.le_of_ble_eq_true rfl, Nat.le_of_ble_eq_true rfl⟩) rfl hl.1 rfl (Nat.le_of_ble_eq_true rfl) dL_law_948 ⟨(by first | exact rm_c (by omega) | exact rm_s (by omega)), (by first | exact rm_c (by omega) | exact rm_s (by omega))⟩) (fun _ _ _ _ _ _ _ hp => hp.elim) (fun r_948 ad1 ct1 H locs hp X => ?_)
      obtain ⟨⟨hr_, hAK⟩, S1, A1, hb_, hM⟩ := hp
      subst hr_
      rw [hb_] at X
      rw [← hAK.1] at hl
      rw [← hAK.2.2 0] at hl
      rw [← hAK.2.2 1] at hl
      rw [← hAK.2.2 2] at hl
      rw [← hAK.2.2 3] at hl
      rw [← hAK.2.2 4] at hl
      rw [← hAK.2.2 5] at hl
      rw [← hAK.2.2 6] at hl
      rw [← hAK.2.2 7] at hl
      rw [← hAK.2.2 8] at hl
      rw [← hAK.2.2 9] at hl
      rw [← hAK.2.2 10] at hl
      refine lv_istore (lv' := [(13, .int 1), (0, .ref b), (1, .ref (ad1 0 0)), (2, .ref (ad1 17 0)), (3, .ref (ad1 17 1)), (4, .ref (ad1 17 2)), (5, .ref (ad1 17 3)), (6, .ref (ad1 17 4)), (7, .ref (ad1 17 5)), (8, .ref (ad1 17 6)), (9, .ref (ad1 17 7)), (10, .ref (ad1 17 8)), (11, .ref (ad1 17 9)), (12, .ref (ad1 17 10)), (14, .int (nI i)), (15, .int (nI wq)), (16, .int (nI x1)), (17, .int (nI x2)), (18, .int (nI uq)), (19, .int (bI (decide (uq < S.2 0 0))))]) hx hb dL_law_951 hl (by decide) rfl (fun ls hl => ?_)
      refine lv_goto (tgt := 1231) hx hb dL_law_953 (by decide) ?_
      refine W.widen (k := 1100 * i + 240) (n := 8000 * i + 10000) (by omega) (by omega) ?_
      exact K _ _ _ _ _ _ (hM) X (lv_sub hl [1, 2, 3, 4, 5, 6, 7, 8, 9, 10, 11, 12, 13, 0, 14, 16] rfl)
    · have c_936 : ¬ 25 ≤ wq := fun h => c_936 ((nI_leI (a := 25) (b := wq) (by omega) (by omega)).mpr h)
      refine lv_iconst (v := 1) hx hb dL_law_939 (by decide) ?_
      refine lv_goto (tgt := 944) hx hb dL_law_940 (by decide) ?_
      refine lv_iload hx hb dL_law_944 (lv_at hl 16 rfl) ?_
      refine lv_iload hx hb dL_law_946 (lv_at hl 17 rfl) ?_
      refine k_xRi X (k_xrunS (As := [.ref (ad 0 0), .ref (ad 17 0), .ref (ad 17 1), .ref (ad 17 2), .ref (ad 17 4), .ref (ad 17 5), .ref (ad 17 6), .ref (ad 17 7), .ref (ad 17 8), .ref (ad 17 9), .ref (ad 17 10), .int 1, .int (nI x1), .int (nI x2)]) (rest := []) Z X (c_L_isSpend_1 l E G S T o ad hE (by omega) hx1 hx2 hI) (k_cwS 14 Z.1.2.2.2.2 (inU_27 _ (List.mem_of_getElem? (i := 17) rfl)) (inU_27 _ (List.mem_of_getElem? (i := 18) rfl)) (inU_6 _ (List.mem_of_getElem? (i := 5) rfl)) (inU_27 _ (List.mem_of_getElem? (i := 19) rfl)) rfl rfl (by decide +kernel) ⟨Nat.le_of_ble_eq_true rfl, Nat.le_of_ble_eq_true rfl⟩) rfl hl.1 rfl (Nat.le_of_ble_eq_true rfl) dL_law_948 ⟨(by first | exact rm_c (by omega) | exact rm_s (by omega)), (by first | exact rm_c (by omega) | exact rm_s (by omega))⟩) (fun _ _ _ _ _ _ _ hp => hp.elim) (fun r_948 ad1 ct1 H locs hp X => ?_)
      obtain ⟨⟨hr_, hAK⟩, S1, A1, hb_, hM⟩ := hp
      subst hr_
      rw [hb_] at X
      rw [← hAK.1] at hl
      rw [← hAK.2.2 0] at hl
      rw [← hAK.2.2 1] at hl
      rw [← hAK.2.2 2] at hl
      rw [← hAK.2.2 3] at hl
      rw [← hAK.2.2 4] at hl
      rw [← hAK.2.2 5] at hl
      rw [← hAK.2.2 6] at hl
      rw [← hAK.2.2 7] at hl
      rw [← hAK.2.2 8] at hl
      rw [← hAK.2.2 9] at hl
      rw [← hAK.2.2 10] at hl
      refine lv_istore (lv' := [(13, .int 1), (0, .ref b), (1, .ref (ad1 0 0)), (2, .ref (ad1 17 0)), (3, .ref (ad1 17 1)), (4, .ref (ad1 17 2)), (5, .ref (ad1 17 3)), (6, .ref (ad1 17 4)), (7, .ref (ad1 17 5)), (8, .ref (ad1 17 6)), (9, .ref (ad1 17 7)), (10, .ref (ad1 17 8)), (11, .ref (ad1 17 9)), (12, .ref (ad1 17 10)), (14, .int (nI i)), (15, .int (nI wq)), (16, .int (nI x1)), (17, .int (nI x2)), (18, .int (nI uq)), (19, .int (bI (decide (uq < S.2 0 0))))]) hx hb dL_law_951 hl (by decide) rfl (fun ls hl => ?_)
      refine lv_goto (tgt := 1231) hx hb dL_law_953 (by decide) ?_
      refine W.widen (k := 1100 * i + 240) (n := 8000 * i + 10000) (by omega) (by omega) ?_
      exact K _ _ _ _ _ _ (hM) X (lv_sub hl [1, 2, 3, 4, 5, 6, 7, 8, 9, 10, 11, 12, 13, 0, 14, 16] rfl)
  · have c_925 : ¬ 22 ≤ wq := fun h => c_925 ((nI_leI (a := 22) (b := wq) (by omega) (by omega)).mpr h)
    refine lv_iconst (v := 0) hx hb dL_law_928 (by decide) ?_
    refine lv_goto (tgt := 944) hx hb dL_law_929 (by decide) ?_
    refine lv_iload hx hb dL_law_944 (lv_at hl 16 rfl) ?_
    refine lv_iload hx hb dL_law_946 (lv_at hl 17 rfl) ?_
    refine k_xRi X (k_xrunS (As := [.ref (ad 0 0), .ref (ad 17 0), .ref (ad 17 1), .ref (ad 17 2), .ref (ad 17 4), .ref (ad 17 5), .ref (ad 17 6), .ref (ad 17 7), .ref (ad 17 8), .ref (ad 17 9), .ref (ad 17 10), .int 0, .int (nI x1), .int (nI x2)]) (rest := []) Z X (c_L_isSpend_0 l E G S T o ad hE (by omega) hx1 hx2 hI) (k_cwS 14 Z.1.2.2.2.2 (inU_27 _ (List.mem_of_getElem? (i := 17) rfl)) (inU_27 _ (List.mem_of_getElem? (i := 18) rfl)) (inU_6 _ (List.mem_of_getElem? (i := 5) rfl)) (inU_27 _ (List.mem_of_getElem? (i := 19) rfl)) rfl rfl (by decide +kernel) ⟨Nat.le_of_ble_eq_true rfl, Nat.le_of_ble_eq_true rfl⟩) rfl hl.1 rfl (Nat.le_of_ble_eq_true rfl) dL_law_948 ⟨(by first | exact rm_c (by omega) | exact rm_s (by omega)), (by first | exact rm_c (by omega) | exact rm_s (by omega))⟩) (fun _ _ _ _ _ _ _ hp => hp.elim) (fun r_948 ad1 ct1 H locs hp X => ?_)
    obtain ⟨⟨hr_, hAK⟩, S1, A1, hb_, hM⟩ := hp
    subst hr_
    rw [hb_] at X
    rw [← hAK.1] at hl
    rw [← hAK.2.2 0] at hl
    rw [← hAK.2.2 1] at hl
    rw [← hAK.2.2 2] at hl
    rw [← hAK.2.2 3] at hl
    rw [← hAK.2.2 4] at hl
    rw [← hAK.2.2 5] at hl
    rw [← hAK.2.2 6] at hl
    rw [← hAK.2.2 7] at hl
    rw [← hAK.2.2 8] at hl
    rw [← hAK.2.2 9] at hl
    rw [← hAK.2.2 10] at hl
    refine lv_istore (lv' := [(13, .int 1), (0, .ref b), (1, .ref (ad1 0 0)), (2, .ref (ad1 17 0)), (3, .ref (ad1 17 1)), (4, .ref (ad1 17 2)), (5, .ref (ad1 17 3)), (6, .ref (ad1 17 4)), (7, .ref (ad1 17 5)), (8, .ref (ad1 17 6)), (9, .ref (ad1 17 7)), (10, .ref (ad1 17 8)), (11, .ref (ad1 17 9)), (12, .ref (ad1 17 10)), (14, .int (nI i)), (15, .int (nI wq)), (16, .int (nI x1)), (17, .int (nI x2)), (18, .int (nI uq)), (19, .int (bI (decide (uq < S.2 0 0))))]) hx hb dL_law_951 hl (by decide) rfl (fun ls hl => ?_)
    refine lv_goto (tgt := 1231) hx hb dL_law_953 (by decide) ?_
    refine W.widen (k := 1100 * i + 240) (n := 8000 * i + 10000) (by omega) (by omega) ?_
    exact K _ _ _ _ _ _ (hM) X (lv_sub hl [1, 2, 3, 4, 5, 6, 7, 8, 9, 10, 11, 12, 13, 0, 14, 16] rfl)
