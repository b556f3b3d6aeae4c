/-! THE LAW'S isMessage: a mark -/
def kk0 (x : Nat) : Nat := if x / 13 % 8 < 5 then 1 else x / 13 % 8 - 5
def kkq (x : Nat) : Nat := if kk0 x = 2 ∧ x / 104 % 3 = 0 then 3 else kk0 x
theorem kk0_lt (x : Nat) : kk0 x < 3 := by unfold kk0; split <;> omega
theorem kkq_lt (x : Nat) : kkq x < 4 := by have := kk0_lt x; unfold kkq; split <;> omega
theorem kk0_a {x : Nat} (h : x / 13 % 8 < 5) : 0 = nI (kk0 x) - 1 := by rw [kk0, if_pos h]; decide
theorem kk0_b {x : Nat} (h : ¬ x / 13 % 8 < 5) : nI (x / 13 % 8) - 6 = nI (kk0 x) - 1 := by
  rw [kk0, if_neg h]
  have h8 : x / 13 % 8 < 8 := Nat.mod_lt _ (by decide)
  generalize x / 13 % 8 = y at h h8 ⊢
  have h3 : y = 5 ∨ y = 6 ∨ y = 7 := by omega
  rcases h3 with e | e | e <;> rw [e] <;> decide
theorem m1_eq {k j : Nat} (hk : k < 2 ^ 30) (hj : j < 2 ^ 30) : nI k - 1 = nI j ↔ k = j + 1 := by
  rw [← Int32.toInt_inj, m1_toInt hk, nI_toInt (by omega)]
  omega
theorem m1_neg {k : Nat} (hk : k < 2 ^ 30) : nI k - 1 < 0 ↔ k = 0 := m1_lt hk
set_option maxHeartbeats 4000000 in
set_option maxRecDepth 100000 in
theorem t_isMsg_m {p : Program} {l : Launch} {e : Env} {s : State} {m : MethodId} {below : List Frame} {meth : Method} {c : Code} {E : State} {G : kG} {S T : kSt} {o : Int64} {ad : kAd} {n9 x1 x2 uq : Nat}  (hE : kE l E G) (hn9 : n9 ≤ 90) (hx1 : x1 < 60000) (hx2 : x2 < 60000) (hI : Iv n9 S T) (huq : uq ≤ S.2 0 0) (Z : kZ p m c cL_isMessage 19 s ([.ref (ad 0 0), .ref (ad 17 0), .ref (ad 17 1), .ref (ad 17 2), .ref (ad 17 3), .ref (ad 17 4), .ref (ad 17 8), .ref (ad 17 10), .int 3, .int (nI x1), .int (nI x2)] : List Value).toArray wsL_law RL E G) (hr : meth.sig.returnType = some .boolean) (hlocks : meth.locks = false) : ∀ (H : Heap) (locs : List Loc) (ls : Array Slot), kX E G s H locs ad (cto G S T o ad) → lv_has ls 19 [(0, .ref (ad 0 0)), (1, .ref (ad 17 0)), (2, .ref (ad 17 1)), (3, .ref (ad 17 2)), (4, .ref (ad 17 3)), (5, .ref (ad 17 4)), (6, .ref (ad 17 8)), (7, .ref (ad 17 10)), (8, .int 3), (9, .int (nI x1)), (10, .int (nI x2)), (11, .int (nI uq)), (12, .int (bI (decide (uq < S.2 0 0))))] → W p l e (headSpec (Cond.code yL_isMessage cL_isMessage 19 (some .boolean) :: wsL_law) ({ frames := 18, cells := 20, slots := 400, locals := 500 } : Room)).room s m ([.ref (ad 0 0), .ref (ad 17 0), .ref (ad 17 1), .ref (ad 17 2), .ref (ad 17 3), .ref (ad 17 4), .ref (ad 17 8), .ref (ad 17 10), .int 3, .int (nI x1), .int (nI x2)] : List Value).toArray below meth c H locs 0 0 (vx_MQ below (kQi E G (fun r ad1 ct1 => (r = 1 ∧ AK ad ad1) ∧ ∃ S1 A1, ct1 = cto G S1 A1 o ad1 ∧ Mid (n9 + 1) S1 A1)) (kXC E G (fun _ _ _ => False)) ([.ref (ad 0 0), .ref (ad 17 0), .ref (ad 17 1), .ref (ad 17 2), .ref (ad 17 3), .ref (ad 17 4), .ref (ad 17 8), .ref (ad 17 10), .int 3, .int (nI x1), .int (nI x2)] : List Value).toArray s 20 400 (kB E.heap.size)) (F0 m 265 ls []) := by
  intro H locs ls X hl
  have hx := Z.1.1
  have hb := Z.1.2.1
  have hT := hI.lt
  obtain ⟨hS, hL, hK9, hLg, hRp, hlog9, hB⟩ := hI.1.ok
  have hN := hS
  have hlog : S.2 0 4 < 512 := by omega
  obtain ⟨hc0, hc1, hc2, hc3⟩ := hT.c
  obtain ⟨aq, eaq⟩ : ∃ y, y = x2 % (S.2 0 1 + 1) := ⟨_, rfl⟩
  have haq : aq ≤ S.2 0 1 := by rw [eaq]; exact Nat.le_of_lt_succ (Nat.mod_lt _ (by omega))
  refine lv_iload hx hb dL_isMessage_265 (lv_at hl 10 rfl) ?_
  refine lv_aload hx hb dL_isMessage_267 (lv_at hl 7 rfl) ?_
  refine lv_iconst (v := 2) hx hb dL_isMessage_269 (by decide) ?_
  refine k_ild (ad := ad) (k := 17) (i := 10) Z X ct_17_10 (vp_in_nI (n := 2) (by first | assumption | omega) (by decide)) dL_isMessage_270 ?_
  refine lv_topi (fun x_270 e_270 => ?_)
  obtain rfl : x_270 = T.1 11 2 := e_270.trans (by first | (simp only [nI_clamp (show 2 < 2 ^ 31 by omega)]; done) | rfl | (simp only [nI_clamp (show 2 < 2 ^ 31 by omega)]; rfl) | (simp only [nI_clamp (show 2 < 2 ^ 31 by omega)]; simp [sI, sN]; done))
  refine lv_topi (fun x_270 e_270 => ?_)
  obtain rfl : x_270 = nI (S.2 0 1) := e_270.trans (hT.g2)
  refine lv_iconst (v := 1) hx hb dL_isMessage_271 (by decide) ?_
  refine lv_iadd hx hb dL_isMessage_272 ?_
  refine lv_topi (fun x_272 e_272 => ?_)
  obtain rfl : x_272 = nI ((S.2 0 1) + 1) := e_272.trans (nI_add (S.2 0 1) 1)
  refine lv_irem hx hb dL_isMessage_273 (nI_ne0 (by omega) (by omega)) ?_
  refine lv_topi (fun x_273 e_273 => ?_)
  obtain rfl : x_273 = nI aq := e_273.trans ((pk_rem (a := x2) (d := ((S.2 0 1) + 1)) (by omega) (by omega) (by omega)).trans (congrArg nI eaq.symm))
  refine lv_istore (lv' := [(13, .int (nI aq)), (0, .ref (ad 0 0)), (1, .ref (ad 17 0)), (2, .ref (ad 17 1)), (3, .ref (ad 17 2)), (4, .ref (ad 17 3)), (5, .ref (ad 17 4)), (6, .ref (ad 17 8)), (7, .ref (ad 17 10)), (8, .int 3), (9, .int (nI x1)), (10, .int (nI x2)), (11, .int (nI uq)), (12, .int (bI (decide (uq < S.2 0 0))))]) hx hb dL_isMessage_274 hl (by decide) rfl (fun ls hl => ?_)
  have M_295 : ∀ (H : Heap) (locs : List Loc), kX E G s H locs ad (cto G S T o ad) → W p l e (headSpec (Cond.code yL_isMessage cL_isMessage 19 (some .boolean) :: wsL_law) ({ frames := 18, cells := 20, slots := 400, locals := 500 } : Room)).room s m ([.ref (ad 0 0), .ref (ad 17 0), .ref (ad 17 1), .ref (ad 17 2), .ref (ad 17 3), .ref (ad 17 4), .ref (ad 17 8), .ref (ad 17 10), .int 3, .int (nI x1), .int (nI x2)] : List Value).toArray below meth c H locs 0 0 (vx_MQ below (kQi E G (fun r ad1 ct1 => (r = 1 ∧ AK ad ad1) ∧ ∃ S1 A1, ct1 = cto G S1 A1 o ad1 ∧ Mid (n9 + 1) S1 A1)) (kXC E G (fun _ _ _ => False)) ([.ref (ad 0 0), .ref (ad 17 0), .ref (ad 17 1), .ref (ad 17 2), .ref (ad 17 3), .ref (ad 17 4), .ref (ad 17 8), .ref (ad 17 10), .int 3, .int (nI x1), .int (nI x2)] : List Value).toArray s 20 400 (kB E.heap.size)) (F0 m 295 ls [.int (bI (arM S uq aq))]) := by
    intro H locs X
    refine lv_istore (lv' := [(14, .int (bI (arM S uq aq))), (13, .int (nI aq)), (0, .ref (ad 0 0)), (1, .ref (ad 17 0)), (2, .ref (ad 17 1)), (3, .ref (ad 17 2)), (4, .ref (ad 17 3)), (5, .ref (ad 17 4)), (6, .ref (ad 17 8)), (7, .ref (ad 17 10)), (8, .int 3), (9, .int (nI x1)), (10, .int (nI x2)), (11, .int (nI uq)), (12, .int (bI (decide (uq < S.2 0 0))))]) hx hb dL_isMessage_295 hl (by decide) rfl (fun ls hl => ?_)
    cases har : arM S uq aq with
    | false =>
      rw [har] at hl
      have hkq := kkq_lt x1
      refine lv_iload hx hb dL_isMessage_297 (lv_at hl 0 rfl) ?_
      refine lv_if_eq (tgt := 327) hx hb dL_isMessage_299 (by decide) (fun c_299 => ?_) (fun c_299 => ?_)
      · refine lv_iconst (v := 0) hx hb dL_isMessage_327 (by decide) ?_
        refine lv_istore (lv' := [(15, .int 0), (14, .int (bI false)), (13, .int (nI aq)), (0, .ref (ad 0 0)), (1, .ref (ad 17 0)), (2, .ref (ad 17 1)), (3, .ref (ad 17 2)), (4, .ref (ad 17 3)), (5, .ref (ad 17 4)), (6, .ref (ad 17 8)), (7, .ref (ad 17 10)), (8, .int 3), (9, .int (nI x1)), (10, .int (nI x2)), (11, .int (nI uq)), (12, .int (bI (decide (uq < S.2 0 0))))]) hx hb dL_isMessage_328 hl (by decide) rfl (fun ls hl => ?_)
        refine lv_iload hx hb dL_isMessage_330 (lv_at hl 11 rfl) ?_
        refine lv_iconst (v := 3) hx hb dL_isMessage_332 (by decide) ?_
        refine lv_icmp_ge (tgt := 524) hx hb dL_isMessage_333 (by decide) (fun c_333 => ?_) (fun c_333 => ?_)
        · have M_551 : ∀ (H : Heap) (locs : List Loc), kX E G s H locs ad (cto G S T o ad) → W p l e (headSpec (Cond.code yL_isMessage cL_isMessage 19 (some .boolean) :: wsL_law) ({ frames := 18, cells := 20, slots := 400, locals := 500 } : Room)).room s m ([.ref (ad 0 0), .ref (ad 17 0), .ref (ad 17 1), .ref (ad 17 2), .ref (ad 17 3), .ref (ad 17 4), .ref (ad 17 8), .ref (ad 17 10), .int 3, .int (nI x1), .int (nI x2)] : List Value).toArray below meth c H locs 0 0 (vx_MQ below (kQi E G (fun r ad1 ct1 => (r = 1 ∧ AK ad ad1) ∧ ∃ S1 A1, ct1 = cto G S1 A1 o ad1 ∧ Mid (n9 + 1) S1 A1)) (kXC E G (fun _ _ _ => False)) ([.ref (ad 0 0), .ref (ad 17 0), .ref (ad 17 1), .ref (ad 17 2), .ref (ad 17 3), .ref (ad 17 4), .ref (ad 17 8), .ref (ad 17 10), .int 3, .int (nI x1), .int (nI x2)] : List Value).toArray s 20 400 (kB E.heap.size)) (F0 m 551 ls [.int (nI (kk0 x1) - 1)]) := by
            intro H locs X
            refine lv_istore (lv' := [(16, .int (nI (kk0 x1) - 1)), (15, .int 0), (14, .int (bI false)), (13, .int (nI aq)), (0, .ref (ad 0 0)), (1, .ref (ad 17 0)), (2, .ref (ad 17 1)), (3, .ref (ad 17 2)), (4, .ref (ad 17 3)), (5, .ref (ad 17 4)), (6, .ref (ad 17 8)), (7, .ref (ad 17 10)), (8, .int 3), (9, .int (nI x1)), (10, .int (nI x2)), (11, .int (nI uq)), (12, .int (bI (decide (uq < S.2 0 0))))]) hx hb dL_isMessage_551 hl (by decide) rfl (fun ls hl => ?_)
            have M_575 : ∀ (H : Heap) (locs : List Loc), kX E G s H locs ad (cto G S T o ad) → W p l e (headSpec (Cond.code yL_isMessage cL_isMessage 19 (some .boolean) :: wsL_law) ({ frames := 18, cells := 20, slots := 400, locals := 500 } : Room)).room s m ([.ref (ad 0 0), .ref (ad 17 0), .ref (ad 17 1), .ref (ad 17 2), .ref (ad 17 3), .ref (ad 17 4), .ref (ad 17 8), .ref (ad 17 10), .int 3, .int (nI x1), .int (nI x2)] : List Value).toArray below meth c H locs 0 0 (vx_MQ below (kQi E G (fun r ad1 ct1 => (r = 1 ∧ AK ad ad1) ∧ ∃ S1 A1, ct1 = cto G S1 A1 o ad1 ∧ Mid (n9 + 1) S1 A1)) (kXC E G (fun _ _ _ => False)) ([.ref (ad 0 0), .ref (ad 17 0), .ref (ad 17 1), .ref (ad 17 2), .ref (ad 17 3), .ref (ad 17 4), .ref (ad 17 8), .ref (ad 17 10), .int 3, .int (nI x1), .int (nI x2)] : List Value).toArray s 20 400 (kB E.heap.size)) (F0 m 575 ls [.int (nI (kkq x1) - 1)]) := by
              intro H locs X
              refine lv_istore (lv' := [(16, .int (nI (kkq x1) - 1)), (15, .int 0), (14, .int (bI false)), (13, .int (nI aq)), (0, .ref (ad 0 0)), (1, .ref (ad 17 0)), (2, .ref (ad 17 1)), (3, .ref (ad 17 2)), (4, .ref (ad 17 3)), (5, .ref (ad 17 4)), (6, .ref (ad 17 8)), (7, .ref (ad 17 10)), (8, .int 3), (9, .int (nI x1)), (10, .int (nI x2)), (11, .int (nI uq)), (12, .int (bI (decide (uq < S.2 0 0))))]) hx hb dL_isMessage_575 hl (by decide) rfl (fun ls hl => ?_)
              refine lv_iload hx hb dL_isMessage_577 (lv_at hl 2 rfl) ?_
              refine lv_if_eq (tgt := 598) hx hb dL_isMessage_579 (by decide) (fun c_579 => ?_) (fun c_579 => ?_)
              · refine lv_iconst (v := 0) hx hb dL_isMessage_598 (by decide) ?_
                refine lv_istore (lv' := [(17, .int 0), (16, .int (nI (kkq x1) - 1)), (15, .int 0), (14, .int (bI false)), (13, .int (nI aq)), (0, .ref (ad 0 0)), (1, .ref (ad 17 0)), (2, .ref (ad 17 1)), (3, .ref (ad 17 2)), (4, .ref (ad 17 3)), (5, .ref (ad 17 4)), (6, .ref (ad 17 8)), (7, .ref (ad 17 10)), (8, .int 3), (9, .int (nI x1)), (10, .int (nI x2)), (11, .int (nI uq)), (12, .int (bI (decide (uq < S.2 0 0))))]) hx hb dL_isMessage_599 hl (by decide) rfl (fun ls hl => ?_)
                have M_612 : ∀ (H : Heap) (locs : List Loc), kX E G s H locs ad (cto G S T o ad) → W p l e (headSpec (Cond.code yL_isMessage cL_isMessage 19 (some .boolean) :: wsL_law) ({ frames := 18, cells := 20, slots := 400, locals := 500 } : Room)).room s m ([.ref (ad 0 0), .ref (ad 17 0), .ref (ad 17 1), .ref (ad 17 2), .ref (ad 17 3), .ref (ad 17 4), .ref (ad 17 8), .ref (ad 17 10), .int 3, .int (nI x1), .int (nI x2)] : List Value).toArray below meth c H locs 0 0 (vx_MQ below (kQi E G (fun r ad1 ct1 => (r = 1 ∧ AK ad ad1) ∧ ∃ S1 A1, ct1 = cto G S1 A1 o ad1 ∧ Mid (n9 + 1) S1 A1)) (kXC E G (fun _ _ _ => False)) ([.ref (ad 0 0), .ref (ad 17 0), .ref (ad 17 1), .ref (ad 17 2), .ref (ad 17 3), .ref (ad 17 4), .ref (ad 17 8), .ref (ad 17 10), .int 3, .int (nI x1), .int (nI x2)] : List Value).toArray s 20 400 (kB E.heap.size)) (F0 m 612 ls [.int (bI (decide ((kkq x1) < 3)))]) := by
                  intro H locs X
                  refine lv_istore (lv' := [(18, .int (bI (decide ((kkq x1) < 3)))), (17, .int 0), (16, .int (nI (kkq x1) - 1)), (15, .int 0), (14, .int (bI false)), (13, .int (nI aq)), (0, .ref (ad 0 0)), (1, .ref (ad 17 0)), (2, .ref (ad 17 1)), (3, .ref (ad 17 2)), (4, .ref (ad 17 3)), (5, .ref (ad 17 4)), (6, .ref (ad 17 8)), (7, .ref (ad 17 10)), (8, .int 3), (9, .int (nI x1)), (10, .int (nI x2)), (11, .int (nI uq)), (12, .int (bI (decide (uq < S.2 0 0))))]) hx hb dL_isMessage_612 hl (by decide) rfl (fun ls hl => ?_)
                  refine lv_iload hx hb dL_isMessage_614 (lv_at hl 3 rfl) ?_
                  refine lv_if_eq (tgt := 645) hx hb dL_isMessage_616 (by decide) (fun c_616 => ?_) (fun c_616 => ?_)
                  · refine lv_iconst (v := 0) hx hb dL_isMessage_645 (by decide) ?_
                    refine lv_istore (lv' := [(15, .int 0), (18, .int (bI (decide ((kkq x1) < 3)))), (17, .int 0), (16, .int (nI (kkq x1) - 1)), (14, .int (bI false)), (13, .int (nI aq)), (0, .ref (ad 0 0)), (1, .ref (ad 17 0)), (2, .ref (ad 17 1)), (3, .ref (ad 17 2)), (4, .ref (ad 17 3)), (5, .ref (ad 17 4)), (6, .ref (ad 17 8)), (7, .ref (ad 17 10)), (8, .int 3), (9, .int (nI x1)), (10, .int (nI x2)), (11, .int (nI uq)), (12, .int (bI (decide (uq < S.2 0 0))))]) hx hb dL_isMessage_646 hl (by decide) rfl (fun ls hl => ?_)
                    refine lv_iload hx hb dL_isMessage_648 (lv_at hl 0 rfl) ?_
                    refine lv_if_eq (tgt := 673) hx hb dL_isMessage_650 (by decide) (fun c_650 => ?_) (fun c_650 => ?_)
                    · refine lv_aload_n hx hb dL_isMessage_673 rfl (lv_at hl 6 rfl) ?_
                      refine lv_bipush (v := 6) hx hb dL_isMessage_674 (by decide) ?_
                      refine lv_iload hx hb dL_isMessage_676 (lv_at hl 17 rfl) ?_
                      refine lv_iload hx hb dL_isMessage_678 (lv_at hl 5 rfl) ?_
                      refine lv_iload hx hb dL_isMessage_680 (lv_at hl 3 rfl) ?_
                      refine lv_iconst (v := 0) hx hb dL_isMessage_682 (by decide) ?_
                      refine k_xRi X (k_xrunSW (As := [.ref (ad 0 0), .int 6, .int (nI uq), .int (nI aq), .int (nI (kkq x1) - 1), .int 0]) (rest := []) Z X (c_L_does_6 l E G S T o ad (nI uq) (nI aq) (nI (kkq x1) - 1) 0 hE hS hL hK9 hlog) (k_cwSW 6 Z.1.2.2.2.2 (inU_6 _ (List.mem_of_getElem? (i := 3) rfl)) (inU_6 _ (List.mem_of_getElem? (i := 4) rfl)) (inU_6 _ (List.mem_of_getElem? (i := 5) rfl)) (inU_6 _ (List.mem_of_getElem? (i := 6) rfl)) rfl rfl (by decide +kernel) ⟨(Nat.le_of_ble_eq_true rfl), (Nat.le_of_ble_eq_true rfl)⟩) rfl hl.1 rfl (Nat.le_of_ble_eq_true rfl) dL_isMessage_683 ⟨(Nat.le_of_ble_eq_true rfl), (Nat.le_of_ble_eq_true rfl)⟩) (fun _ _ _ _ _ _ _ hp => hp.elim) (fun r_683 ad1 ct1 H locs hp X => ?_)
                      have hC : cMark S (kdS S) (nI uq) (nI aq) (nI (kkq x1) - 1) = 1 := by rw [cMark_v (by omega) (by omega) hkq, har]; rfl
                      obtain ⟨ha_, hq⟩ := hp
                      rcases hq with ⟨z, -⟩ | ⟨z, hr_, hb_⟩ | ⟨z, -⟩ | ⟨z, -⟩
                      case inl => exact absurd (hC.symm.trans z) (by decide)
                      case inr.inr.inl => exact absurd (hC.symm.trans z) (by decide)
                      case inr.inr.inr => exact absurd (hC.symm.trans z) (by decide)
                      subst hr_
                      rw [hb_, ← ha_] at X
                      refine lv_iload hx hb dL_isMessage_686 (lv_at hl 4 rfl) ?_
                      refine lv_if_ne (tgt := 696) hx hb dL_isMessage_688 (by decide) (fun c_688 => ?_) (fun c_688 => ?_)
                      · exact absurd c_688 (by decide)
                      · refine lv_ldc (v := (-3000000)) hx hb Z.1.2.2.2.1 (Z.1.2.2.2.2 _ (inU_1 _ (List.mem_of_getElem? (i := 5) rfl))) dL_isMessage_691 ?_
                        refine lv_goto (tgt := 727) hx hb dL_isMessage_693 (by decide) ?_
                        refine lv_icmp_ne (tgt := 734) hx hb dL_isMessage_727 (by decide) (fun c_727 => ?_) (fun c_727 => ?_)
                        · exact absurd rfl c_727
                        · refine lv_iconst (v := 1) hx hb dL_isMessage_730 (by decide) ?_
                          refine lv_goto (tgt := 735) hx hb dL_isMessage_731 (by decide) ?_
                          exact vx_ret (k_iret Z X hr hlocks rfl (by omega) (by omega) dL_isMessage_735 ⟨⟨rfl, AK.rf⟩, S, T, rfl, hI.mid (by omega)⟩)
                    · exact absurd c_650 (by decide)
                  · exact absurd c_616 (by decide)
                refine lv_iload hx hb dL_isMessage_601 (lv_at hl 1 rfl) ?_
                refine lv_iconst (v := 2) hx hb dL_isMessage_603 (by decide) ?_
                refine lv_icmp_ge (tgt := 611) hx hb dL_isMessage_604 (by decide) (fun c_604 => ?_) (fun c_604 => ?_)
                · have s_604 : ¬ (kkq x1) < 3 := fun z => absurd ((m1_ge (p := (kkq x1)) (n := 2) (by have := kkq_lt x1; omega) (by decide)).mp c_604) (by omega)
                  refine lv_iconst (v := 0) hx hb dL_isMessage_611 (by decide) ?_
                  exact W.eq (congrArg (fun z => F0 m 612 ls (.int z :: [])) (bI_f (decide_eq_false s_604))) (M_612 _ _ X)
                · have s_604 : (kkq x1) < 3 := Nat.lt_of_not_le (fun z => c_604 ((m1_ge (p := (kkq x1)) (n := 2) (by have := kkq_lt x1; omega) (by decide)).mpr z))
                  refine lv_iconst (v := 1) hx hb dL_isMessage_607 (by decide) ?_
                  refine lv_goto (tgt := 612) hx hb dL_isMessage_608 (by decide) ?_
                  exact W.eq (congrArg (fun z => F0 m 612 ls (.int z :: [])) (bI_t (decide_eq_true s_604))) (M_612 _ _ X)
              · exact absurd c_579 (by decide)
            refine lv_iload hx hb dL_isMessage_553 (lv_at hl 0 rfl) ?_
            refine lv_iconst (v := 1) hx hb dL_isMessage_555 (by decide) ?_
            refine lv_icmp_ne (tgt := 573) hx hb dL_isMessage_556 (by decide) (fun c_556 => ?_) (fun c_556 => ?_)
            · have s_556 : ¬ kk0 x1 = 2 := fun z => c_556 ((m1_eq (j := 1) (by have := kk0_lt x1; omega) (by decide)).mpr z)
              refine lv_iload hx hb dL_isMessage_573 (lv_at hl 0 rfl) ?_
              exact W.eq (congrArg (fun z => F0 m 575 ls (.int z :: [])) (by rw [kkq, if_neg (fun z => s_556 z.1)])) (M_575 _ _ X)
            · have s_556 : kk0 x1 = 2 := (m1_eq (j := 1) (by have := kk0_lt x1; omega) (by decide)).mp c_556
              refine lv_iload hx hb dL_isMessage_559 (lv_at hl 13 rfl) ?_
              refine lv_bipush (v := 104) hx hb dL_isMessage_561 (by decide) ?_
              refine lv_idiv hx hb dL_isMessage_563 (by decide) ?_
              refine lv_topi (fun x_563 e_563 => ?_)
              obtain rfl : x_563 = nI (x1 / 104) := e_563.trans ((pk_div (a := x1) (d := 104) (by omega) (by omega) (by omega)))
              refine lv_iconst (v := 3) hx hb dL_isMessage_564 (by decide) ?_
              refine lv_irem hx hb dL_isMessage_565 (by decide) ?_
              refine lv_topi (fun x_565 e_565 => ?_)
              obtain rfl : x_565 = nI ((x1 / 104) % 3) := e_565.trans ((pk_rem (a := (x1 / 104)) (d := 3) (by omega) (by omega) (by omega)))
              refine lv_if_ne (tgt := 573) hx hb dL_isMessage_566 (by decide) (fun c_566 => ?_) (fun c_566 => ?_)
              · have c_566 : ¬ (x1 / 104) % 3 = 0 := fun h => c_566 ((nI_eq (a := (x1 / 104) % 3) (b := 0) (by omega) (by omega)).mpr h)
                refine lv_iload hx hb dL_isMessage_573 (lv_at hl 0 rfl) ?_
                exact W.eq (congrArg (fun z => F0 m 575 ls (.int z :: [])) (by rw [kkq, if_neg (fun z => c_566 z.2)])) (M_575 _ _ X)
              · have c_566 : (x1 / 104) % 3 = 0 := (nI_eq (a := (x1 / 104) % 3) (b := 0) (by omega) (by omega)).mp c_566
                refine lv_iconst (v := 2) hx hb dL_isMessage_569 (by decide) ?_
                refine lv_goto (tgt := 575) hx hb dL_isMessage_570 (by decide) ?_
                exact W.eq (congrArg (fun z => F0 m 575 ls (.int z :: [])) (by rw [kkq, if_pos ⟨s_556, c_566⟩]; decide)) (M_575 _ _ X)
          refine lv_iload hx hb dL_isMessage_524 (lv_at hl 12 rfl) ?_
          refine lv_bipush (v := 13) hx hb dL_isMessage_526 (by decide) ?_
          refine lv_idiv hx hb dL_isMessage_528 (by decide) ?_
          refine lv_topi (fun x_528 e_528 => ?_)
          obtain rfl : x_528 = nI (x1 / 13) := e_528.trans ((pk_div (a := x1) (d := 13) (by omega) (by omega) (by omega)))
          refine lv_bipush (v := 8) hx hb dL_isMessage_529 (by decide) ?_
          refine lv_irem hx hb dL_isMessage_531 (by decide) ?_
          refine lv_topi (fun x_531 e_531 => ?_)
          obtain rfl : x_531 = nI ((x1 / 13) % 8) := e_531.trans ((pk_rem (a := (x1 / 13)) (d := 8) (by omega) (by omega) (by omega)))
          refine lv_iconst (v := 5) hx hb dL_isMessage_532 (by decide) ?_
          refine lv_icmp_ge (tgt := 540) hx hb dL_isMessage_533 (by decide) (fun c_533 => ?_) (fun c_533 => ?_)
          · have c_533 : 5 ≤ (x1 / 13) % 8 := (nI_leI (a := 5) (b := (x1 / 13) % 8) (by omega) (by omega)).mp c_533
            refine lv_iload hx hb dL_isMessage_540 (lv_at hl 12 rfl) ?_
            refine lv_bipush (v := 13) hx hb dL_isMessage_542 (by decide) ?_
            refine lv_idiv hx hb dL_isMessage_544 (by decide) ?_
            refine lv_topi (fun x_544 e_544 => ?_)
            obtain rfl : x_544 = nI (x1 / 13) := e_544.trans ((pk_div (a := x1) (d := 13) (by omega) (by omega) (by omega)))
            refine lv_bipush (v := 8) hx hb dL_isMessage_545 (by decide) ?_
            refine lv_irem hx hb dL_isMessage_547 (by decide) ?_
            refine lv_topi (fun x_547 e_547 => ?_)
            obtain rfl : x_547 = nI ((x1 / 13) % 8) := e_547.trans ((pk_rem (a := (x1 / 13)) (d := 8) (by omega) (by omega) (by omega)))
            refine lv_bipush (v := 6) hx hb dL_isMessage_548 (by decide) ?_
            refine lv_isub hx hb dL_isMessage_550 ?_
            exact W.eq (congrArg (fun z => F0 m 551 ls (.int z :: [])) (kk0_b (Nat.not_lt.mpr c_533))) (M_551 _ _ X)
          · have c_533 : ¬ 5 ≤ (x1 / 13) % 8 := fun h => c_533 ((nI_leI (a := 5) (b := (x1 / 13) % 8) (by omega) (by omega)).mpr h)
            refine lv_iconst (v := 0) hx hb dL_isMessage_536 (by decide) ?_
            refine lv_goto (tgt := 551) hx hb dL_isMessage_537 (by decide) ?_
            exact W.eq (congrArg (fun z => F0 m 551 ls (.int z :: [])) (kk0_a (Nat.lt_of_not_le c_533))) (M_551 _ _ X)
        · exact absurd c_333 (by decide)
      · exact absurd c_299 (by decide)
    | true =>
      rw [har] at hl
      have har0 := har
      simp only [arM, Bool.and_eq_true, decide_eq_true_eq] at har0
      obtain ⟨hu1, ha1⟩ := har0
      obtain ⟨dg, hdg, hdx, hdd⟩ := hT.d ha1
      have hmm := hT.mm hN (j := aq) (by omega)
      have hmm1 := hmm.1
      have hkq := kkq_lt x1
      have hdu := hdg uq (by omega)
      have M_328 : ∀ (H : Heap) (locs : List Loc), kX E G s H locs ad (cto G S T o ad) → W p l e (headSpec (Cond.code yL_isMessage cL_isMessage 19 (some .boolean) :: wsL_law) ({ frames := 18, cells := 20, slots := 400, locals := 500 } : Room)).room s m ([.ref (ad 0 0), .ref (ad 17 0), .ref (ad 17 1), .ref (ad 17 2), .ref (ad 17 3), .ref (ad 17 4), .ref (ad 17 8), .ref (ad 17 10), .int 3, .int (nI x1), .int (nI x2)] : List Value).toArray below meth c H locs 0 0 (vx_MQ below (kQi E G (fun r ad1 ct1 => (r = 1 ∧ AK ad ad1) ∧ ∃ S1 A1, ct1 = cto G S1 A1 o ad1 ∧ Mid (n9 + 1) S1 A1)) (kXC E G (fun _ _ _ => False)) ([.ref (ad 0 0), .ref (ad 17 0), .ref (ad 17 1), .ref (ad 17 2), .ref (ad 17 3), .ref (ad 17 4), .ref (ad 17 8), .ref (ad 17 10), .int 3, .int (nI x1), .int (nI x2)] : List Value).toArray s 20 400 (kB E.heap.size)) (F0 m 328 ls [.int (bI (caM S uq aq))]) := by
        intro H locs X
        refine lv_istore (lv' := [(15, .int (bI (caM S uq aq))), (14, .int (bI true)), (13, .int (nI aq)), (0, .ref (ad 0 0)), (1, .ref (ad 17 0)), (2, .ref (ad 17 1)), (3, .ref (ad 17 2)), (4, .ref (ad 17 3)), (5, .ref (ad 17 4)), (6, .ref (ad 17 8)), (7, .ref (ad 17 10)), (8, .int 3), (9, .int (nI x1)), (10, .int (nI x2)), (11, .int (nI uq)), (12, .int (bI (decide (uq < S.2 0 0))))]) hx hb dL_isMessage_328 hl (by decide) rfl (fun ls hl => ?_)
        refine lv_iload hx hb dL_isMessage_330 (lv_at hl 11 rfl) ?_
        refine lv_iconst (v := 3) hx hb dL_isMessage_332 (by decide) ?_
        refine lv_icmp_ge (tgt := 524) hx hb dL_isMessage_333 (by decide) (fun c_333 => ?_) (fun c_333 => ?_)
        · have M_551 : ∀ (H : Heap) (locs : List Loc), kX E G s H locs ad (cto G S T o ad) → W p l e (headSpec (Cond.code yL_isMessage cL_isMessage 19 (some .boolean) :: wsL_law) ({ frames := 18, cells := 20, slots := 400, locals := 500 } : Room)).room s m ([.ref (ad 0 0), .ref (ad 17 0), .ref (ad 17 1), .ref (ad 17 2), .ref (ad 17 3), .ref (ad 17 4), .ref (ad 17 8), .ref (ad 17 10), .int 3, .int (nI x1), .int (nI x2)] : List Value).toArray below meth c H locs 0 0 (vx_MQ below (kQi E G (fun r ad1 ct1 => (r = 1 ∧ AK ad ad1) ∧ ∃ S1 A1, ct1 = cto G S1 A1 o ad1 ∧ Mid (n9 + 1) S1 A1)) (kXC E G (fun _ _ _ => False)) ([.ref (ad 0 0), .ref (ad 17 0), .ref (ad 17 1), .ref (ad 17 2), .ref (ad 17 3), .ref (ad 17 4), .ref (ad 17 8), .ref (ad 17 10), .int 3, .int (nI x1), .int (nI x2)] : List Value).toArray s 20 400 (kB E.heap.size)) (F0 m 551 ls [.int (nI (kk0 x1) - 1)]) := by
            intro H locs X
            refine lv_istore (lv' := [(16, .int (nI (kk0 x1) - 1)), (15, .int (bI (caM S uq aq))), (14, .int (bI true)), (13, .int (nI aq)), (0, .ref (ad 0 0)), (1, .ref (ad 17 0)), (2, .ref (ad 17 1)), (3, .ref (ad 17 2)), (4, .ref (ad 17 3)), (5, .ref (ad 17 4)), (6, .ref (ad 17 8)), (7, .ref (ad 17 10)), (8, .int 3), (9, .int (nI x1)), (10, .int (nI x2)), (11, .int (nI uq)), (12, .int (bI (decide (uq < S.2 0 0))))]) hx hb dL_isMessage_551 hl (by decide) rfl (fun ls hl => ?_)
            have M_575 : ∀ (H : Heap) (locs : List Loc), kX E G s H locs ad (cto G S T o ad) → W p l e (headSpec (Cond.code yL_isMessage cL_isMessage 19 (some .boolean) :: wsL_law) ({ frames := 18, cells := 20, slots := 400, locals := 500 } : Room)).room s m ([.ref (ad 0 0), .ref (ad 17 0), .ref (ad 17 1), .ref (ad 17 2), .ref (ad 17 3), .ref (ad 17 4), .ref (ad 17 8), .ref (ad 17 10), .int 3, .int (nI x1), .int (nI x2)] : List Value).toArray below meth c H locs 0 0 (vx_MQ below (kQi E G (fun r ad1 ct1 => (r = 1 ∧ AK ad ad1) ∧ ∃ S1 A1, ct1 = cto G S1 A1 o ad1 ∧ Mid (n9 + 1) S1 A1)) (kXC E G (fun _ _ _ => False)) ([.ref (ad 0 0), .ref (ad 17 0), .ref (ad 17 1), .ref (ad 17 2), .ref (ad 17 3), .ref (ad 17 4), .ref (ad 17 8), .ref (ad 17 10), .int 3, .int (nI x1), .int (nI x2)] : List Value).toArray s 20 400 (kB E.heap.size)) (F0 m 575 ls [.int (nI (kkq x1) - 1)]) := by
              intro H locs X
              refine lv_istore (lv' := [(16, .int (nI (kkq x1) - 1)), (15, .int (bI (caM S uq aq))), (14, .int (bI true)), (13, .int (nI aq)), (0, .ref (ad 0 0)), (1, .ref (ad 17 0)), (2, .ref (ad 17 1)), (3, .ref (ad 17 2)), (4, .ref (ad 17 3)), (5, .ref (ad 17 4)), (6, .ref (ad 17 8)), (7, .ref (ad 17 10)), (8, .int 3), (9, .int (nI x1)), (10, .int (nI x2)), (11, .int (nI uq)), (12, .int (bI (decide (uq < S.2 0 0))))]) hx hb dL_isMessage_575 hl (by decide) rfl (fun ls hl => ?_)
              refine lv_iload hx hb dL_isMessage_577 (lv_at hl 2 rfl) ?_
              refine lv_if_eq (tgt := 598) hx hb dL_isMessage_579 (by decide) (fun c_579 => ?_) (fun c_579 => ?_)
              · exact absurd c_579 (by decide)
              · refine lv_aload hx hb dL_isMessage_582 (lv_at hl 9 rfl) ?_
                refine lv_iload hx hb dL_isMessage_584 (lv_at hl 3 rfl) ?_
                refine k_ild (ad := ad) (k := 17) (i := 4) Z X ct_17_4 (vp_in_nI (n := aq) (by first | assumption | omega) (by decide)) dL_isMessage_586 ?_
                refine lv_topi (fun x_586 e_586 => ?_)
                obtain rfl : x_586 = T.1 5 aq := e_586.trans (by first | (simp only [nI_clamp (show aq < 2 ^ 31 by omega)]; done) | rfl | (simp only [nI_clamp (show aq < 2 ^ 31 by omega)]; rfl) | (simp only [nI_clamp (show aq < 2 ^ 31 by omega)]; simp [sI, sN]; done))
                refine lv_topi (fun x_586 e_586 => ?_)
                obtain rfl : x_586 = nI (k8 dg) := e_586.trans (hdx)
                refine lv_iconst (v := 3) hx hb dL_isMessage_587 (by decide) ?_
                refine lv_iload hx hb dL_isMessage_588 (lv_at hl 15 rfl) ?_
                refine lv_imul hx hb dL_isMessage_590 ?_
                refine lv_topi (fun x_590 e_590 => ?_)
                obtain rfl : x_590 = nI (3 * uq) := e_590.trans (pk_mul 3 uq)
                refine lv_ishr hx hb dL_isMessage_591 ?_
                refine lv_topi (fun x_591 e_591 => ?_)
                obtain rfl : x_591 = nI (k8 dg / 2 ^ (3 * uq)) := e_591.trans (n_shr (Nat.lt_trans (k8_lt hdg) (by decide)) (by omega))
                refine lv_bipush (v := 7) hx hb dL_isMessage_592 (by decide) ?_
                refine lv_iand hx hb dL_isMessage_594 ?_
                refine lv_topi (fun x_594 e_594 => ?_)
                obtain rfl : x_594 = nI (dg uq) := e_594.trans ((pk_andN (Nat.lt_of_le_of_lt (Nat.div_le_self _ _) (Nat.lt_trans (k8_lt hdg) (by decide))) 3 rfl).trans (congrArg nI (k8_at hdg uq (by omega))))
                refine lv_goto (tgt := 599) hx hb dL_isMessage_595 (by decide) ?_
                refine lv_istore (lv' := [(17, .int (nI (dg uq))), (16, .int (nI (kkq x1) - 1)), (15, .int (bI (caM S uq aq))), (14, .int (bI true)), (13, .int (nI aq)), (0, .ref (ad 0 0)), (1, .ref (ad 17 0)), (2, .ref (ad 17 1)), (3, .ref (ad 17 2)), (4, .ref (ad 17 3)), (5, .ref (ad 17 4)), (6, .ref (ad 17 8)), (7, .ref (ad 17 10)), (8, .int 3), (9, .int (nI x1)), (10, .int (nI x2)), (11, .int (nI uq)), (12, .int (bI (decide (uq < S.2 0 0))))]) hx hb dL_isMessage_599 hl (by decide) rfl (fun ls hl => ?_)
                have M_612 : ∀ (H : Heap) (locs : List Loc), kX E G s H locs ad (cto G S T o ad) → W p l e (headSpec (Cond.code yL_isMessage cL_isMessage 19 (some .boolean) :: wsL_law) ({ frames := 18, cells := 20, slots := 400, locals := 500 } : Room)).room s m ([.ref (ad 0 0), .ref (ad 17 0), .ref (ad 17 1), .ref (ad 17 2), .ref (ad 17 3), .ref (ad 17 4), .ref (ad 17 8), .ref (ad 17 10), .int 3, .int (nI x1), .int (nI x2)] : List Value).toArray below meth c H locs 0 0 (vx_MQ below (kQi E G (fun r ad1 ct1 => (r = 1 ∧ AK ad ad1) ∧ ∃ S1 A1, ct1 = cto G S1 A1 o ad1 ∧ Mid (n9 + 1) S1 A1)) (kXC E G (fun _ _ _ => False)) ([.ref (ad 0 0), .ref (ad 17 0), .ref (ad 17 1), .ref (ad 17 2), .ref (ad 17 3), .ref (ad 17 4), .ref (ad 17 8), .ref (ad 17 10), .int 3, .int (nI x1), .int (nI x2)] : List Value).toArray s 20 400 (kB E.heap.size)) (F0 m 612 ls [.int (bI (decide ((kkq x1) < 3)))]) := by
                  intro H locs X
                  refine lv_istore (lv' := [(18, .int (bI (decide ((kkq x1) < 3)))), (17, .int (nI (dg uq))), (16, .int (nI (kkq x1) - 1)), (15, .int (bI (caM S uq aq))), (14, .int (bI true)), (13, .int (nI aq)), (0, .ref (ad 0 0)), (1, .ref (ad 17 0)), (2, .ref (ad 17 1)), (3, .ref (ad 17 2)), (4, .ref (ad 17 3)), (5, .ref (ad 17 4)), (6, .ref (ad 17 8)), (7, .ref (ad 17 10)), (8, .int 3), (9, .int (nI x1)), (10, .int (nI x2)), (11, .int (nI uq)), (12, .int (bI (decide (uq < S.2 0 0))))]) hx hb dL_isMessage_612 hl (by decide) rfl (fun ls hl => ?_)
                  have M_646 : ∀ (H : Heap) (locs : List Loc), kX E G s H locs ad (cto G S T o ad) → W p l e (headSpec (Cond.code yL_isMessage cL_isMessage 19 (some .boolean) :: wsL_law) ({ frames := 18, cells := 20, slots := 400, locals := 500 } : Room)).room s m ([.ref (ad 0 0), .ref (ad 17 0), .ref (ad 17 1), .ref (ad 17 2), .ref (ad 17 3), .ref (ad 17 4), .ref (ad 17 8), .ref (ad 17 10), .int 3, .int (nI x1), .int (nI x2)] : List Value).toArray below meth c H locs 0 0 (vx_MQ below (kQi E G (fun r ad1 ct1 => (r = 1 ∧ AK ad ad1) ∧ ∃ S1 A1, ct1 = cto G S1 A1 o ad1 ∧ Mid (n9 + 1) S1 A1)) (kXC E G (fun _ _ _ => False)) ([.ref (ad 0 0), .ref (ad 17 0), .ref (ad 17 1), .ref (ad 17 2), .ref (ad 17 3), .ref (ad 17 4), .ref (ad 17 8), .ref (ad 17 10), .int 3, .int (nI x1), .int (nI x2)] : List Value).toArray s 20 400 (kB E.heap.size)) (F0 m 646 ls [.int (bI (caK S uq aq (kkq x1)))]) := by
                    intro H locs X
                    refine lv_istore (lv' := [(15, .int (bI (caK S uq aq (kkq x1)))), (18, .int (bI (decide ((kkq x1) < 3)))), (17, .int (nI (dg uq))), (16, .int (nI (kkq x1) - 1)), (14, .int (bI true)), (13, .int (nI aq)), (0, .ref (ad 0 0)), (1, .ref (ad 17 0)), (2, .ref (ad 17 1)), (3, .ref (ad 17 2)), (4, .ref (ad 17 3)), (5, .ref (ad 17 4)), (6, .ref (ad 17 8)), (7, .ref (ad 17 10)), (8, .int 3), (9, .int (nI x1)), (10, .int (nI x2)), (11, .int (nI uq)), (12, .int (bI (decide (uq < S.2 0 0))))]) hx hb dL_isMessage_646 hl (by decide) rfl (fun ls hl => ?_)
                    refine lv_iload hx hb dL_isMessage_648 (lv_at hl 0 rfl) ?_
                    refine lv_if_eq (tgt := 673) hx hb dL_isMessage_650 (by decide) (fun c_650 => ?_) (fun c_650 => ?_)
                    · have c_650 : (caK S uq aq (kkq x1)) = false := bI_0 c_650
                      rw [c_650] at hl
                      cases hk9 : decide ((kkq x1) < 3) with
                      | false =>
                        rw [hk9] at hl
                        refine lv_aload_n hx hb dL_isMessage_673 rfl (lv_at hl 6 rfl) ?_
                        refine lv_bipush (v := 6) hx hb dL_isMessage_674 (by decide) ?_
                        refine lv_iload hx hb dL_isMessage_676 (lv_at hl 17 rfl) ?_
                        refine lv_iload hx hb dL_isMessage_678 (lv_at hl 5 rfl) ?_
                        refine lv_iload hx hb dL_isMessage_680 (lv_at hl 3 rfl) ?_
                        refine lv_iconst (v := 0) hx hb dL_isMessage_682 (by decide) ?_
                        refine k_xRi X (k_xrunSW (As := [.ref (ad 0 0), .int 6, .int (nI uq), .int (nI aq), .int (nI (kkq x1) - 1), .int 0]) (rest := []) Z X (c_L_does_6 l E G S T o ad (nI uq) (nI aq) (nI (kkq x1) - 1) 0 hE hS hL hK9 hlog) (k_cwSW 6 Z.1.2.2.2.2 (inU_6 _ (List.mem_of_getElem? (i := 3) rfl)) (inU_6 _ (List.mem_of_getElem? (i := 4) rfl)) (inU_6 _ (List.mem_of_getElem? (i := 5) rfl)) (inU_6 _ (List.mem_of_getElem? (i := 6) rfl)) rfl rfl (by decide +kernel) ⟨(Nat.le_of_ble_eq_true rfl), (Nat.le_of_ble_eq_true rfl)⟩) rfl hl.1 rfl (Nat.le_of_ble_eq_true rfl) dL_isMessage_683 ⟨(Nat.le_of_ble_eq_true rfl), (Nat.le_of_ble_eq_true rfl)⟩) (fun _ _ _ _ _ _ _ hp => hp.elim) (fun r_683 ad1 ct1 H locs hp X => ?_)
                        have hC : cMark S (kdS S) (nI uq) (nI aq) (nI (kkq x1) - 1) = 2 := by rw [cMark_v (by omega) (by omega) hkq, har, if_neg (of_decide_eq_false hk9)]; rfl
                        obtain ⟨ha_, hq⟩ := hp
                        rcases hq with ⟨z, -⟩ | ⟨z, -⟩ | ⟨z, hr_, hb_⟩ | ⟨z, -⟩
                        case inl => exact absurd (hC.symm.trans z) (by decide)
                        case inr.inl => exact absurd (hC.symm.trans z) (by decide)
                        case inr.inr.inr => exact absurd (hC.symm.trans z) (by decide)
                        subst hr_
                        rw [hb_, ← ha_] at X
                        refine lv_iload hx hb dL_isMessage_686 (lv_at hl 4 rfl) ?_
                        refine lv_if_ne (tgt := 696) hx hb dL_isMessage_688 (by decide) (fun c_688 => ?_) (fun c_688 => ?_)
                        · refine lv_iload hx hb dL_isMessage_696 (lv_at hl 1 rfl) ?_
                          refine lv_if_ne (tgt := 706) hx hb dL_isMessage_698 (by decide) (fun c_698 => ?_) (fun c_698 => ?_)
                          · exact absurd c_698 (by decide)
                          · refine lv_ldc (v := (-2000000)) hx hb Z.1.2.2.2.1 (Z.1.2.2.2.2 _ (inU_1 _ (List.mem_of_getElem? (i := 4) rfl))) dL_isMessage_701 ?_
                            refine lv_goto (tgt := 727) hx hb dL_isMessage_703 (by decide) ?_
                            refine lv_icmp_ne (tgt := 734) hx hb dL_isMessage_727 (by decide) (fun c_727 => ?_) (fun c_727 => ?_)
                            · exact absurd rfl c_727
                            · refine lv_iconst (v := 1) hx hb dL_isMessage_730 (by decide) ?_
                              refine lv_goto (tgt := 735) hx hb dL_isMessage_731 (by decide) ?_
                              exact vx_ret (k_iret Z X hr hlocks rfl (by omega) (by omega) dL_isMessage_735 ⟨⟨rfl, AK.rf⟩, S, T, rfl, hI.mid (by omega)⟩)
                        · exact absurd c_688 (by decide)
                      | true =>
                        rw [hk9] at hl
                        refine lv_aload_n hx hb dL_isMessage_673 rfl (lv_at hl 6 rfl) ?_
                        refine lv_bipush (v := 6) hx hb dL_isMessage_674 (by decide) ?_
                        refine lv_iload hx hb dL_isMessage_676 (lv_at hl 17 rfl) ?_
                        refine lv_iload hx hb dL_isMessage_678 (lv_at hl 5 rfl) ?_
                        refine lv_iload hx hb dL_isMessage_680 (lv_at hl 3 rfl) ?_
                        refine lv_iconst (v := 0) hx hb dL_isMessage_682 (by decide) ?_
                        refine k_xRi X (k_xrunSW (As := [.ref (ad 0 0), .int 6, .int (nI uq), .int (nI aq), .int (nI (kkq x1) - 1), .int 0]) (rest := []) Z X (c_L_does_6 l E G S T o ad (nI uq) (nI aq) (nI (kkq x1) - 1) 0 hE hS hL hK9 hlog) (k_cwSW 6 Z.1.2.2.2.2 (inU_6 _ (List.mem_of_getElem? (i := 3) rfl)) (inU_6 _ (List.mem_of_getElem? (i := 4) rfl)) (inU_6 _ (List.mem_of_getElem? (i := 5) rfl)) (inU_6 _ (List.mem_of_getElem? (i := 6) rfl)) rfl rfl (by decide +kernel) ⟨(Nat.le_of_ble_eq_true rfl), (Nat.le_of_ble_eq_true rfl)⟩) rfl hl.1 rfl (Nat.le_of_ble_eq_true rfl) dL_isMessage_683 ⟨(Nat.le_of_ble_eq_true rfl), (Nat.le_of_ble_eq_true rfl)⟩) (fun _ _ _ _ _ _ _ hp => hp.elim) (fun r_683 ad1 ct1 H locs hp X => ?_)
                        have hC : cMark S (kdS S) (nI uq) (nI aq) (nI (kkq x1) - 1) = 3 := by rw [cMark_v (by omega) (by omega) hkq, har, if_pos (of_decide_eq_true hk9), c_650]; rfl
                        obtain ⟨ha_, hq⟩ := hp
                        rcases hq with ⟨z, -⟩ | ⟨z, -⟩ | ⟨z, -⟩ | ⟨z, hr_, hb_⟩
                        case inl => exact absurd (hC.symm.trans z) (by decide)
                        case inr.inl => exact absurd (hC.symm.trans z) (by decide)
                        case inr.inr.inl => exact absurd (hC.symm.trans z) (by decide)
                        subst hr_
                        rw [hb_, ← ha_] at X
                        refine lv_iload hx hb dL_isMessage_686 (lv_at hl 4 rfl) ?_
                        refine lv_if_ne (tgt := 696) hx hb dL_isMessage_688 (by decide) (fun c_688 => ?_) (fun c_688 => ?_)
                        · refine lv_iload hx hb dL_isMessage_696 (lv_at hl 1 rfl) ?_
                          refine lv_if_ne (tgt := 706) hx hb dL_isMessage_698 (by decide) (fun c_698 => ?_) (fun c_698 => ?_)
                          · refine lv_iload hx hb dL_isMessage_706 (lv_at hl 0 rfl) ?_
                            refine lv_if_eq (tgt := 725) hx hb dL_isMessage_708 (by decide) (fun c_708 => ?_) (fun c_708 => ?_)
                            · refine lv_ldc (v := (-1000000)) hx hb Z.1.2.2.2.1 (Z.1.2.2.2.2 _ (inU_1 _ (List.mem_of_getElem? (i := 8) rfl))) dL_isMessage_725 ?_
                              refine lv_icmp_ne (tgt := 734) hx hb dL_isMessage_727 (by decide) (fun c_727 => ?_) (fun c_727 => ?_)
                              · exact absurd rfl c_727
                              · refine lv_iconst (v := 1) hx hb dL_isMessage_730 (by decide) ?_
                                refine lv_goto (tgt := 735) hx hb dL_isMessage_731 (by decide) ?_
                                exact vx_ret (k_iret Z X hr hlocks rfl (by omega) (by omega) dL_isMessage_735 ⟨⟨rfl, AK.rf⟩, S, T, rfl, hI.mid (by omega)⟩)
                            · exact absurd c_708 (by decide)
                          · exact absurd c_698 (by decide)
                        · exact absurd c_688 (by decide)
                    · have c_650 : (caK S uq aq (kkq x1)) = true := bI_1 c_650
                      have hk3 : (kkq x1) < 3 := by have z := c_650; simp only [caK, Bool.and_eq_true, decide_eq_true_eq] at z; exact z.2.1
                      have hkd3 := decide_eq_true hk3
                      rw [hkd3] at hl
                      rw [c_650] at hl
                      refine lv_aload hx hb dL_isMessage_653 (lv_at hl 11 rfl) ?_
                      refine lv_iload hx hb dL_isMessage_655 (lv_at hl 5 rfl) ?_
                      refine lv_dup2_11 hx hb dL_isMessage_657 rfl rfl ?_
                      refine k_ild (ad := ad) (k := 17) (i := 4) Z X ct_17_4 (vp_in_nI (n := aq) (by first | assumption | omega) (by decide)) dL_isMessage_658 ?_
                      refine lv_topi (fun x_658 e_658 => ?_)
                      obtain rfl : x_658 = T.1 5 aq := e_658.trans (by first | (simp only [nI_clamp (show aq < 2 ^ 31 by omega)]; done) | rfl | (simp only [nI_clamp (show aq < 2 ^ 31 by omega)]; rfl) | (simp only [nI_clamp (show aq < 2 ^ 31 by omega)]; simp [sI, sN]; done))
                      refine lv_topi (fun x_658 e_658 => ?_)
                      obtain rfl : x_658 = nI (k8 dg) := e_658.trans (hdx)
                      refine lv_iload hx hb dL_isMessage_659 (lv_at hl 3 rfl) ?_
                      refine lv_iconst (v := 1) hx hb dL_isMessage_661 (by decide) ?_
                      refine lv_iadd hx hb dL_isMessage_662 ?_
                      refine lv_topi (fun x_662 e_662 => ?_)
                      obtain rfl : x_662 = nI (kkq x1) := e_662.trans (Int32.sub_add_cancel _ _)
                      refine lv_iload hx hb dL_isMessage_663 (lv_at hl 2 rfl) ?_
                      refine lv_isub hx hb dL_isMessage_665 ?_
                      refine lv_iconst (v := 3) hx hb dL_isMessage_666 (by decide) ?_
                      refine lv_iload hx hb dL_isMessage_667 (lv_at hl 17 rfl) ?_
                      refine lv_imul hx hb dL_isMessage_669 ?_
                      refine lv_topi (fun x_669 e_669 => ?_)
                      obtain rfl : x_669 = nI (3 * uq) := e_669.trans (pk_mul 3 uq)
                      refine lv_ishl hx hb dL_isMessage_670 ?_
                      refine lv_iadd hx hb dL_isMessage_671 ?_
                      refine lv_topi (fun x_671 e_671 => ?_)
                      obtain rfl : x_671 = nI (k8 (dset dg uq (kkq x1))) := e_671.trans (n_put (k8_lt hdg) (k8_lt (hdg.set (by omega))) (by omega) hdu (by omega) (k8_set uq (by omega)))
                      refine k_ist (ad := ad) (k := 17) (i := 4) Z X ct_17_4 (vp_in_nI (n := aq) (by first | assumption | omega) (by decide)) dL_isMessage_672 (fun H locs X => ?_)
                      have X : kX E G s H locs ad (cto G S (sI T 5 aq (nI (k8 (dset dg uq (kkq x1))))) o ad) := X.eq (st_17 (a := 4) (by decide) aq _ (by omega))
                      refine lv_aload_n hx hb dL_isMessage_673 rfl (lv_at hl 6 rfl) ?_
                      refine lv_bipush (v := 6) hx hb dL_isMessage_674 (by decide) ?_
                      refine lv_iload hx hb dL_isMessage_676 (lv_at hl 17 rfl) ?_
                      refine lv_iload hx hb dL_isMessage_678 (lv_at hl 5 rfl) ?_
                      refine lv_iload hx hb dL_isMessage_680 (lv_at hl 3 rfl) ?_
                      refine lv_iconst (v := 0) hx hb dL_isMessage_682 (by decide) ?_
                      refine k_xRi X (k_xrunSW (As := [.ref (ad 0 0), .int 6, .int (nI uq), .int (nI aq), .int (nI (kkq x1) - 1), .int 0]) (rest := []) Z X (c_L_does_6 l E G S (sI T 5 aq (nI (k8 (dset dg uq (kkq x1))))) o ad (nI uq) (nI aq) (nI (kkq x1) - 1) 0 hE hS hL hK9 hlog) (k_cwSW 6 Z.1.2.2.2.2 (inU_6 _ (List.mem_of_getElem? (i := 3) rfl)) (inU_6 _ (List.mem_of_getElem? (i := 4) rfl)) (inU_6 _ (List.mem_of_getElem? (i := 5) rfl)) (inU_6 _ (List.mem_of_getElem? (i := 6) rfl)) rfl rfl (by decide +kernel) ⟨(Nat.le_of_ble_eq_true rfl), (Nat.le_of_ble_eq_true rfl)⟩) rfl hl.1 rfl (Nat.le_of_ble_eq_true rfl) dL_isMessage_683 ⟨(Nat.le_of_ble_eq_true rfl), (Nat.le_of_ble_eq_true rfl)⟩) (fun _ _ _ _ _ _ _ hp => hp.elim) (fun r_683 ad1 ct1 H locs hp X => ?_)
                      have hC : cMark S (kdS S) (nI uq) (nI aq) (nI (kkq x1) - 1) = 0 := by rw [cMark_v (by omega) (by omega) hkq, har, if_pos hk3, c_650]; rfl
                      obtain ⟨ha_, hq⟩ := hp
                      rcases hq with ⟨z, hr_, S1, hS1, hb_⟩ | ⟨z, -⟩ | ⟨z, -⟩ | ⟨z, -⟩
                      case inr.inl => exact absurd (hC.symm.trans z) (by decide)
                      case inr.inr.inl => exact absurd (hC.symm.trans z) (by decide)
                      case inr.inr.inr => exact absurd (hC.symm.trans z) (by decide)
                      subst hr_
                      rw [hb_, ← ha_, show S1 = (oMarkC S (nI uq) (nI aq) (nI (kkq x1) - 1)) from hS1] at X
                      have hLM : LT (oMkC S (nI uq) (nI aq) (nI (kkq x1) - 1)) (sI T 5 aq (nI (k8 (dset dg uq (kkq x1))))) := hT.mrk ha1 (by omega) hk3 hdg hdd (fun w hw => hK9 aq w ha1 (by omega))
                      refine lv_topi (fun y_683 f_683 => ?_)
                      obtain rfl : y_683 = nI (cntN (oMkC S (nI uq) (nI aq) (nI (kkq x1) - 1)) (kdS (oMkC S (nI uq) (nI aq) (nI (kkq x1) - 1)) aq) ((oMkC S (nI uq) (nI aq) (nI (kkq x1) - 1)).2 0 0)) := f_683.trans (congrArg nI (mark_ans (by omega)))
                      refine lv_iload hx hb dL_isMessage_686 (lv_at hl 4 rfl) ?_
                      refine lv_if_ne (tgt := 696) hx hb dL_isMessage_688 (by decide) (fun c_688 => ?_) (fun c_688 => ?_)
                      · refine lv_iload hx hb dL_isMessage_696 (lv_at hl 1 rfl) ?_
                        refine lv_if_ne (tgt := 706) hx hb dL_isMessage_698 (by decide) (fun c_698 => ?_) (fun c_698 => ?_)
                        · refine lv_iload hx hb dL_isMessage_706 (lv_at hl 0 rfl) ?_
                          refine lv_if_eq (tgt := 725) hx hb dL_isMessage_708 (by decide) (fun c_708 => ?_) (fun c_708 => ?_)
                          · exact absurd c_708 (by decide)
                          · refine lv_aload_n hx hb dL_isMessage_711 rfl (lv_at hl 7 rfl) ?_
                            refine lv_aload hx hb dL_isMessage_712 (lv_at hl 11 rfl) ?_
                            refine lv_aload hx hb dL_isMessage_714 (lv_at hl 13 rfl) ?_
                            refine lv_iload hx hb dL_isMessage_716 (lv_at hl 5 rfl) ?_
                            refine lv_iconst (v := (-1)) hx hb dL_isMessage_718 (by decide) ?_
                            refine k_Ri X (k_runS (As := [.ref (ad 17 0), .ref (ad 17 4), .ref (ad 17 10), .int (nI aq), .int (-1)]) (rest := [.int (nI (cntN (oMkC S (nI uq) (nI aq) (nI (kkq x1) - 1)) (kdS (oMkC S (nI uq) (nI aq) (nI (kkq x1) - 1)) aq) ((oMkC S (nI uq) (nI aq) (nI (kkq x1) - 1)).2 0 0)))]) Z X (c_L_counted1 l E G (oMarkC S (nI uq) (nI aq) (nI (kkq x1) - 1)) (sI T 5 aq (nI (k8 (dset dg uq (kkq x1))))) o ad (oMkC S (nI uq) (nI aq) (nI (kkq x1) - 1)) hLM aq (by show aq < (_ : Nat); rw [oMkC_2 (by decide)]; exact ha1)) (k_cwS 5 Z.1.2.2.2.2 (inU_27 _ (List.mem_of_getElem? (i := 14) rfl)) (inU_27 _ (List.mem_of_getElem? (i := 15) rfl)) (inU_6 _ (List.mem_of_getElem? (i := 5) rfl)) (inU_27 _ (List.mem_of_getElem? (i := 16) rfl)) rfl rfl (by decide +kernel) ⟨Nat.le_of_ble_eq_true rfl, Nat.le_of_ble_eq_true rfl⟩) rfl hl.1 rfl (Nat.le_of_ble_eq_true rfl) dL_isMessage_719 ⟨(by first | exact Nat.le_of_ble_eq_true rfl | (show _ ≤ (_ : Nat); simp only [headSpec]; omega)), (by first | exact Nat.le_of_ble_eq_true rfl | (show _ ≤ (_ : Nat); simp only [headSpec]; omega))⟩) (fun r_719 ad1 ct1 H locs hp X => ?_)
                            obtain ⟨rfl, ha_, hb_⟩ := hp
                            rw [← ha_, hb_] at X
                            refine lv_goto (tgt := 727) hx hb dL_isMessage_722 (by decide) ?_
                            refine lv_icmp_ne (tgt := 734) hx hb dL_isMessage_727 (by decide) (fun c_727 => ?_) (fun c_727 => ?_)
                            · exact absurd rfl c_727
                            · refine lv_iconst (v := 1) hx hb dL_isMessage_730 (by decide) ?_
                              refine lv_goto (tgt := 735) hx hb dL_isMessage_731 (by decide) ?_
                              exact vx_ret (k_iret Z X hr hlocks rfl (by omega) (by omega) dL_isMessage_735 ⟨⟨rfl, AK.rf⟩, _, _, rfl, Mid.mark hI hn9 hC hLM (sI_fn (by decide))⟩)
                        · exact absurd c_698 (by decide)
                      · exact absurd c_688 (by decide)
                  refine lv_iload hx hb dL_isMessage_614 (lv_at hl 3 rfl) ?_
                  refine lv_if_eq (tgt := 645) hx hb dL_isMessage_616 (by decide) (fun c_616 => ?_) (fun c_616 => ?_)
                  · have c_616 : (caM S uq aq) = false := bI_0 c_616
                    refine lv_iconst (v := 0) hx hb dL_isMessage_645 (by decide) ?_
                    exact W.eq (congrArg (fun z => F0 m 646 ls (.int z :: [])) (bI_f (by simp [caK, c_616]))) (M_646 _ _ X)
                  · have c_616 : (caM S uq aq) = true := bI_1 c_616
                    refine lv_iload hx hb dL_isMessage_619 (lv_at hl 0 rfl) ?_
                    refine lv_if_eq (tgt := 645) hx hb dL_isMessage_621 (by decide) (fun c_621 => ?_) (fun c_621 => ?_)
                    · have c_621 : (decide ((kkq x1) < 3)) = false := bI_0 c_621
                      refine lv_iconst (v := 0) hx hb dL_isMessage_645 (by decide) ?_
                      exact W.eq (congrArg (fun z => F0 m 646 ls (.int z :: [])) (bI_f (by simp [caK, c_616, c_621]))) (M_646 _ _ X)
                    · have c_621 : (decide ((kkq x1) < 3)) = true := bI_1 c_621
                      refine lv_iload hx hb dL_isMessage_624 (lv_at hl 2 rfl) ?_
                      refine lv_if_ge (tgt := 641) hx hb dL_isMessage_626 (by decide) (fun c_626 => ?_) (fun c_626 => ?_)
                      · have s_626 : ¬ (kkq x1) = 0 := fun z => absurd ((m1_neg (k := (kkq x1)) (by omega)).mpr z) (Int32.not_lt.mpr c_626)
                        refine lv_iconst (v := 1) hx hb dL_isMessage_641 (by decide) ?_
                        refine lv_goto (tgt := 646) hx hb dL_isMessage_642 (by decide) ?_
                        exact W.eq (congrArg (fun z => F0 m 646 ls (.int z :: [])) (bI_t (by simp [caK, c_616, c_621, s_626]))) (M_646 _ _ X)
                      · have s_626 : (kkq x1) = 0 := (m1_neg (by omega)).mp (Int32.not_le.mp c_626)
                        refine lv_iload hx hb dL_isMessage_629 (lv_at hl 1 rfl) ?_
                        refine lv_iconst (v := 1) hx hb dL_isMessage_631 (by decide) ?_
                        refine lv_icmp_eq (tgt := 641) hx hb dL_isMessage_632 (by decide) (fun c_632 => ?_) (fun c_632 => ?_)
                        · have c_632 : dg uq = 1 := (nI_eq (a := dg uq) (b := 1) (by omega) (by omega)).mp c_632
                          have s_632 : kdS S aq uq = 0 := (hdd uq (by omega)).1.mp c_632
                          refine lv_iconst (v := 1) hx hb dL_isMessage_641 (by decide) ?_
                          refine lv_goto (tgt := 646) hx hb dL_isMessage_642 (by decide) ?_
                          exact W.eq (congrArg (fun z => F0 m 646 ls (.int z :: [])) (bI_t (by simp [caK, c_616, c_621, s_626, s_632]))) (M_646 _ _ X)
                        · have c_632 : ¬ dg uq = 1 := fun h => c_632 ((nI_eq (a := dg uq) (b := 1) (by omega) (by omega)).mpr h)
                          have s_632 : ¬ kdS S aq uq = 0 := fun z => c_632 ((hdd uq (by omega)).1.mpr z)
                          refine lv_iload hx hb dL_isMessage_635 (lv_at hl 1 rfl) ?_
                          refine lv_iconst (v := 2) hx hb dL_isMessage_637 (by decide) ?_
                          refine lv_icmp_ne (tgt := 645) hx hb dL_isMessage_638 (by decide) (fun c_638 => ?_) (fun c_638 => ?_)
                          · have c_638 : ¬ dg uq = 2 := fun h => c_638 ((nI_eq (a := dg uq) (b := 2) (by omega) (by omega)).mpr h)
                            have s_638 : kdS S aq uq = -1 := (hdd uq (by omega)).2.2.mpr ⟨c_632, c_638⟩
                            refine lv_iconst (v := 0) hx hb dL_isMessage_645 (by decide) ?_
                            exact W.eq (congrArg (fun z => F0 m 646 ls (.int z :: [])) (bI_f (by simp [caK, c_616, c_621, s_626, s_632, s_638]))) (M_646 _ _ X)
                          · have c_638 : dg uq = 2 := (nI_eq (a := dg uq) (b := 2) (by omega) (by omega)).mp c_638
                            have s_638 : kdS S aq uq = 1 := (hdd uq (by omega)).2.1.mp c_638
                            refine lv_iconst (v := 1) hx hb dL_isMessage_641 (by decide) ?_
                            refine lv_goto (tgt := 646) hx hb dL_isMessage_642 (by decide) ?_
                            exact W.eq (congrArg (fun z => F0 m 646 ls (.int z :: [])) (bI_t (by simp [caK, c_616, c_621, s_626, s_632, s_638]))) (M_646 _ _ X)
                refine lv_iload hx hb dL_isMessage_601 (lv_at hl 1 rfl) ?_
                refine lv_iconst (v := 2) hx hb dL_isMessage_603 (by decide) ?_
                refine lv_icmp_ge (tgt := 611) hx hb dL_isMessage_604 (by decide) (fun c_604 => ?_) (fun c_604 => ?_)
                · have s_604 : ¬ (kkq x1) < 3 := fun z => absurd ((m1_ge (p := (kkq x1)) (n := 2) (by have := kkq_lt x1; omega) (by decide)).mp c_604) (by omega)
                  refine lv_iconst (v := 0) hx hb dL_isMessage_611 (by decide) ?_
                  exact W.eq (congrArg (fun z => F0 m 612 ls (.int z :: [])) (bI_f (decide_eq_false s_604))) (M_612 _ _ X)
                · have s_604 : (kkq x1) < 3 := Nat.lt_of_not_le (fun z => c_604 ((m1_ge (p := (kkq x1)) (n := 2) (by have := kkq_lt x1; omega) (by decide)).mpr z))
                  refine lv_iconst (v := 1) hx hb dL_isMessage_607 (by decide) ?_
                  refine lv_goto (tgt := 612) hx hb dL_isMessage_608 (by decide) ?_
                  exact W.eq (congrArg (fun z => F0 m 612 ls (.int z :: [])) (bI_t (decide_eq_true s_604))) (M_612 _ _ X)
            refine lv_iload hx hb dL_isMessage_553 (lv_at hl 0 rfl) ?_
            refine lv_iconst (v := 1) hx hb dL_isMessage_555 (by decide) ?_
            refine lv_icmp_ne (tgt := 573) hx hb dL_isMessage_556 (by decide) (fun c_556 => ?_) (fun c_556 => ?_)
            · have s_556 : ¬ kk0 x1 = 2 := fun z => c_556 ((m1_eq (j := 1) (by have := kk0_lt x1; omega) (by decide)).mpr z)
              refine lv_iload hx hb dL_isMessage_573 (lv_at hl 0 rfl) ?_
              exact W.eq (congrArg (fun z => F0 m 575 ls (.int z :: [])) (by rw [kkq, if_neg (fun z => s_556 z.1)])) (M_575 _ _ X)
            · have s_556 : kk0 x1 = 2 := (m1_eq (j := 1) (by have := kk0_lt x1; omega) (by decide)).mp c_556
              refine lv_iload hx hb dL_isMessage_559 (lv_at hl 13 rfl) ?_
              refine lv_bipush (v := 104) hx hb dL_isMessage_561 (by decide) ?_
              refine lv_idiv hx hb dL_isMessage_563 (by decide) ?_
              refine lv_topi (fun x_563 e_563 => ?_)
              obtain rfl : x_563 = nI (x1 / 104) := e_563.trans ((pk_div (a := x1) (d := 104) (by omega) (by omega) (by omega)))
              refine lv_iconst (v := 3) hx hb dL_isMessage_564 (by decide) ?_
              refine lv_irem hx hb dL_isMessage_565 (by decide) ?_
              refine lv_topi (fun x_565 e_565 => ?_)
              obtain rfl : x_565 = nI ((x1 / 104) % 3) := e_565.trans ((pk_rem (a := (x1 / 104)) (d := 3) (by omega) (by omega) (by omega)))
              refine lv_if_ne (tgt := 573) hx hb dL_isMessage_566 (by decide) (fun c_566 => ?_) (fun c_566 => ?_)
              · have c_566 : ¬ (x1 / 104) % 3 = 0 := fun h => c_566 ((nI_eq (a := (x1 / 104) % 3) (b := 0) (by omega) (by omega)).mpr h)
                refine lv_iload hx hb dL_isMessage_573 (lv_at hl 0 rfl) ?_
                exact W.eq (congrArg (fun z => F0 m 575 ls (.int z :: [])) (by rw [kkq, if_neg (fun z => c_566 z.2)])) (M_575 _ _ X)
              · have c_566 : (x1 / 104) % 3 = 0 := (nI_eq (a := (x1 / 104) % 3) (b := 0) (by omega) (by omega)).mp c_566
                refine lv_iconst (v := 2) hx hb dL_isMessage_569 (by decide) ?_
                refine lv_goto (tgt := 575) hx hb dL_isMessage_570 (by decide) ?_
                exact W.eq (congrArg (fun z => F0 m 575 ls (.int z :: [])) (by rw [kkq, if_pos ⟨s_556, c_566⟩]; decide)) (M_575 _ _ X)
          refine lv_iload hx hb dL_isMessage_524 (lv_at hl 12 rfl) ?_
          refine lv_bipush (v := 13) hx hb dL_isMessage_526 (by decide) ?_
          refine lv_idiv hx hb dL_isMessage_528 (by decide) ?_
          refine lv_topi (fun x_528 e_528 => ?_)
          obtain rfl : x_528 = nI (x1 / 13) := e_528.trans ((pk_div (a := x1) (d := 13) (by omega) (by omega) (by omega)))
          refine lv_bipush (v := 8) hx hb dL_isMessage_529 (by decide) ?_
          refine lv_irem hx hb dL_isMessage_531 (by decide) ?_
          refine lv_topi (fun x_531 e_531 => ?_)
          obtain rfl : x_531 = nI ((x1 / 13) % 8) := e_531.trans ((pk_rem (a := (x1 / 13)) (d := 8) (by omega) (by omega) (by omega)))
          refine lv_iconst (v := 5) hx hb dL_isMessage_532 (by decide) ?_
          refine lv_icmp_ge (tgt := 540) hx hb dL_isMessage_533 (by decide) (fun c_533 => ?_) (fun c_533 => ?_)
          · have c_533 : 5 ≤ (x1 / 13) % 8 := (nI_leI (a := 5) (b := (x1 / 13) % 8) (by omega) (by omega)).mp c_533
            refine lv_iload hx hb dL_isMessage_540 (lv_at hl 12 rfl) ?_
            refine lv_bipush (v := 13) hx hb dL_isMessage_542 (by decide) ?_
            refine lv_idiv hx hb dL_isMessage_544 (by decide) ?_
            refine lv_topi (fun x_544 e_544 => ?_)
            obtain rfl : x_544 = nI (x1 / 13) := e_544.trans ((pk_div (a := x1) (d := 13) (by omega) (by omega) (by omega)))
            refine lv_bipush (v := 8) hx hb dL_isMessage_545 (by decide) ?_
            refine lv_irem hx hb dL_isMessage_547 (by decide) ?_
            refine lv_topi (fun x_547 e_547 => ?_)
            obtain rfl : x_547 = nI ((x1 / 13) % 8) := e_547.trans ((pk_rem (a := (x1 / 13)) (d := 8) (by omega) (by omega) (by omega)))
            refine lv_bipush (v := 6) hx hb dL_isMessage_548 (by decide) ?_
            refine lv_isub hx hb dL_isMessage_550 ?_
            exact W.eq (congrArg (fun z => F0 m 551 ls (.int z :: [])) (kk0_b (Nat.not_lt.mpr c_533))) (M_551 _ _ X)
          · have c_533 : ¬ 5 ≤ (x1 / 13) % 8 := fun h => c_533 ((nI_leI (a := 5) (b := (x1 / 13) % 8) (by omega) (by omega)).mpr h)
            refine lv_iconst (v := 0) hx hb dL_isMessage_536 (by decide) ?_
            refine lv_goto (tgt := 551) hx hb dL_isMessage_537 (by decide) ?_
            exact W.eq (congrArg (fun z => F0 m 551 ls (.int z :: [])) (kk0_a (Nat.lt_of_not_le c_533))) (M_551 _ _ X)
        · exact absurd c_333 (by decide)
      refine lv_iload hx hb dL_isMessage_297 (lv_at hl 0 rfl) ?_
      refine lv_if_eq (tgt := 327) hx hb dL_isMessage_299 (by decide) (fun c_299 => ?_) (fun c_299 => ?_)
      · exact absurd c_299 (by decide)
      · refine lv_aload_n hx hb dL_isMessage_302 rfl (lv_at hl 3 rfl) ?_
        refine lv_aload hx hb dL_isMessage_303 (lv_at hl 9 rfl) ?_
        refine lv_iload hx hb dL_isMessage_305 (lv_at hl 13 rfl) ?_
        refine k_Ri X (k_runS (As := [.ref (ad 17 0), .ref (ad 17 10), .int (nI uq)]) (rest := []) Z X (c_L_isGone l E G S T o ad S hT uq (by omega)) (k_cwS 3 Z.1.2.2.2.2 (inU_27 _ (List.mem_of_getElem? (i := 11) rfl)) (inU_27 _ (List.mem_of_getElem? (i := 12) rfl)) (inU_6 _ (List.mem_of_getElem? (i := 5) rfl)) (inU_27 _ (List.mem_of_getElem? (i := 13) rfl)) rfl rfl (by decide +kernel) ⟨Nat.le_of_ble_eq_true rfl, Nat.le_of_ble_eq_true rfl⟩) rfl hl.1 rfl (Nat.le_of_ble_eq_true rfl) dL_isMessage_307 ⟨(by first | exact Nat.le_of_ble_eq_true rfl | (show _ ≤ (_ : Nat); simp only [headSpec]; omega)), (by first | exact Nat.le_of_ble_eq_true rfl | (show _ ≤ (_ : Nat); simp only [headSpec]; omega))⟩) (fun r_307 ad1 ct1 H locs hp X => ?_)
        obtain ⟨rfl, ha_, hb_⟩ := hp
        rw [← ha_, hb_] at X
        refine lv_if_ne (tgt := 327) hx hb dL_isMessage_310 (by decide) (fun c_310 => ?_) (fun c_310 => ?_)
        · have c_310 : (gone S uq) = true := bI_1 c_310
          refine lv_iconst (v := 0) hx hb dL_isMessage_327 (by decide) ?_
          exact W.eq (congrArg (fun z => F0 m 328 ls (.int z :: [])) (bI_f (by simp [caM, c_299, c_310, har]))) (M_328 _ _ X)
        · have c_310 : (gone S uq) = false := bI_0 c_310
          refine lv_aload_n hx hb dL_isMessage_313 rfl (lv_at hl 4 rfl) ?_
          refine lv_iload hx hb dL_isMessage_314 (lv_at hl 1 rfl) ?_
          refine k_ild (ad := ad) (k := 17) (i := 1) Z X ct_17_1 (vp_in_nI (n := aq) (by first | assumption | omega) (by decide)) dL_isMessage_316 ?_
          refine lv_topi (fun x_316 e_316 => ?_)
          obtain rfl : x_316 = T.1 2 aq := e_316.trans (by first | (simp only [nI_clamp (show aq < 2 ^ 31 by omega)]; done) | rfl | (simp only [nI_clamp (show aq < 2 ^ 31 by omega)]; rfl) | (simp only [nI_clamp (show aq < 2 ^ 31 by omega)]; simp [sI, sN]; done))
          refine lv_topi (fun x_316 e_316 => ?_)
          obtain rfl : x_316 = nI (encm S aq) := e_316.trans (hT.m (by omega))
          refine lv_sipush (v := 8192) hx hb dL_isMessage_317 (by decide) ?_
          refine lv_icmp_ge (tgt := 327) hx hb dL_isMessage_320 (by decide) (fun c_320 => ?_) (fun c_320 => ?_)
          · have c_320 : 8192 ≤ encm S aq := (nI_leI (a := 8192) (b := encm S aq) (by omega) (by omega)).mp c_320
            have s_320 : ¬ S.1 8 aq = 0 := fun z => absurd (hmm.2.2.2.2.2.mpr z) (by omega)
            refine lv_iconst (v := 0) hx hb dL_isMessage_327 (by decide) ?_
            exact W.eq (congrArg (fun z => F0 m 328 ls (.int z :: [])) (bI_f (by simp [caM, c_299, c_310, har, s_320]))) (M_328 _ _ X)
          · have c_320 : ¬ 8192 ≤ encm S aq := fun h => c_320 ((nI_leI (a := 8192) (b := encm S aq) (by omega) (by omega)).mpr h)
            have s_320 : S.1 8 aq = 0 := hmm.2.2.2.2.2.mp (by omega)
            refine lv_iconst (v := 1) hx hb dL_isMessage_323 (by decide) ?_
            refine lv_goto (tgt := 328) hx hb dL_isMessage_324 (by decide) ?_
            exact W.eq (congrArg (fun z => F0 m 328 ls (.int z :: [])) (bI_t (by simp [caM, c_299, c_310, har, s_320]))) (M_328 _ _ X)
  refine lv_iload hx hb dL_isMessage_276 (lv_at hl 13 rfl) ?_
  refine lv_if_eq (tgt := 294) hx hb dL_isMessage_278 (by decide) (fun c_278 => ?_) (fun c_278 => ?_)
  · have c_278 : (decide (uq < S.2 0 0)) = false := bI_0 c_278
    refine lv_iconst (v := 0) hx hb dL_isMessage_294 (by decide) ?_
    exact W.eq (congrArg (fun z => F0 m 295 ls (.int z :: [])) (bI_f (by rw [arM, c_278]; rfl))) (M_295 _ _ X)
  · have c_278 : (decide (uq < S.2 0 0)) = true := bI_1 c_278
    refine lv_iload hx hb dL_isMessage_281 (lv_at hl 0 rfl) ?_
    refine lv_aload hx hb dL_isMessage_283 (lv_at hl 8 rfl) ?_
    refine lv_iconst (v := 2) hx hb dL_isMessage_285 (by decide) ?_
    refine k_ild (ad := ad) (k := 17) (i := 10) Z X ct_17_10 (vp_in_nI (n := 2) (by first | assumption | omega) (by decide)) dL_isMessage_286 ?_
    refine lv_topi (fun x_286 e_286 => ?_)
    obtain rfl : x_286 = T.1 11 2 := e_286.trans (by first | (simp only [nI_clamp (show 2 < 2 ^ 31 by omega)]; done) | rfl | (simp only [nI_clamp (show 2 < 2 ^ 31 by omega)]; rfl) | (simp only [nI_clamp (show 2 < 2 ^ 31 by omega)]; simp [sI, sN]; done))
    refine lv_topi (fun x_286 e_286 => ?_)
    obtain rfl : x_286 = nI (S.2 0 1) := e_286.trans (hT.g2)
    refine lv_icmp_ge (tgt := 294) hx hb dL_isMessage_287 (by decide) (fun c_287 => ?_) (fun c_287 => ?_)
    · have c_287 : S.2 0 1 ≤ aq := (nI_leI (a := S.2 0 1) (b := aq) (by omega) (by omega)).mp c_287
      refine lv_iconst (v := 0) hx hb dL_isMessage_294 (by decide) ?_
      exact W.eq (congrArg (fun z => F0 m 295 ls (.int z :: [])) (bI_f (by rw [arM, decide_eq_false (p := aq < S.2 0 1) (by omega), Bool.and_false]))) (M_295 _ _ X)
    · have c_287 : ¬ S.2 0 1 ≤ aq := fun h => c_287 ((nI_leI (a := S.2 0 1) (b := aq) (by omega) (by omega)).mpr h)
      refine lv_iconst (v := 1) hx hb dL_isMessage_290 (by decide) ?_
      refine lv_goto (tgt := 295) hx hb dL_isMessage_291 (by decide) ?_
      exact W.eq (congrArg (fun z => F0 m 295 ls (.int z :: [])) (bI_t (by rw [arM, c_278, decide_eq_true (by omega)]; rfl))) (M_295 _ _ X)
