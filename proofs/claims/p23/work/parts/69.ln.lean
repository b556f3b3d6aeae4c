/-! THE LAW'S isSpend: a spend, and the method -/
set_option maxHeartbeats 4000000 in
set_option maxRecDepth 100000 in
theorem c_L_isSpend_0 (l : Launch) (E : State) (G : kG) (S T : kSt) (o : Int64) (ad : kAd) {n9 x1 x2 : Nat} (hE : kE l E G) (hn9 : n9 ≤ 90) (hx1 : x1 < 60000) (hx2 : x2 < 60000) (hI : Iv n9 S T) : vx_Met l yL_isSpend (.code yL_isSpend cL_isSpend 22 (some .boolean) :: wsL_law) ({ frames := 18, cells := 20, slots := 400, locals := 500 } : Room) (va_Pc [.ref (ad 0 0), .ref (ad 17 0), .ref (ad 17 1), .ref (ad 17 2), .ref (ad 17 4), .ref (ad 17 5), .ref (ad 17 6), .ref (ad 17 7), .ref (ad 17 8), .ref (ad 17 9), .ref (ad 17 10), .int 0, .int (nI x1), .int (nI x2)] (kPre E G ad (cto G S T o ad))) (kQi E G (fun r ad1 ct1 => (r = 1 ∧ AK ad ad1) ∧ ∃ S1 A1, ct1 = cto G S1 A1 o ad1 ∧ Mid (n9 + 1) S1 A1)) (kXC E G (fun _ _ _ => False)) 20 400 (kB E.heap.size) := by
  refine vx_ofW (cc := cL_isSpend) (maxL := 22) (ret := (some .boolean)) (by decide) rfl ?_
  intro p e s m args below meth c s₁ B hml hout hv
  obtain ⟨rfl, hM, hK, hW0⟩ := hv
  have hlocks := B.notSynchronized
  have hr := B.returns
  have Z : kZ p m c cL_isSpend 22 s _ wsL_law RL E G := ⟨⟨B.exec, B.bytes, hml, findClass_of_methodNamed B.named, fun w h => atoms_spec (ws := .code yL_isSpend cL_isSpend 22 (some .boolean) :: wsL_law) B.pre w (List.mem_cons_of_mem _ h)⟩, hM, hK⟩
  have hx := Z.1.1
  have hb := Z.1.2.1
  have X := kX.of hW0
  have hl := lv_entry ([.ref (ad 0 0), .ref (ad 17 0), .ref (ad 17 1), .ref (ad 17 2), .ref (ad 17 4), .ref (ad 17 5), .ref (ad 17 6), .ref (ad 17 7), .ref (ad 17 8), .ref (ad 17 9), .ref (ad 17 10), .int 0, .int (nI x1), .int (nI x2)]) (n := 22) (Nat.le_of_ble_eq_true rfl)
  rw [lg_entry_eq]
  generalize (lg_sl ([.ref (ad 0 0), .ref (ad 17 0), .ref (ad 17 1), .ref (ad 17 2), .ref (ad 17 4), .ref (ad 17 5), .ref (ad 17 6), .ref (ad 17 7), .ref (ad 17 8), .ref (ad 17 9), .ref (ad 17 10), .int 0, .int (nI x1), .int (nI x2)]) ++ List.replicate (22 - (lg_sl ([.ref (ad 0 0), .ref (ad 17 0), .ref (ad 17 1), .ref (ad 17 2), .ref (ad 17 4), .ref (ad 17 5), .ref (ad 17 6), .ref (ad 17 7), .ref (ad 17 8), .ref (ad 17 9), .ref (ad 17 10), .int 0, .int (nI x1), .int (nI x2)])).length) Slot.unset).toArray = ls at hl ⊢
  have hl : lv_has ls 22 [(0, .ref (ad 0 0)), (1, .ref (ad 17 0)), (2, .ref (ad 17 1)), (3, .ref (ad 17 2)), (4, .ref (ad 17 4)), (5, .ref (ad 17 5)), (6, .ref (ad 17 6)), (7, .ref (ad 17 7)), (8, .ref (ad 17 8)), (9, .ref (ad 17 9)), (10, .ref (ad 17 10)), (11, .int 0), (12, .int (nI x1)), (13, .int (nI x2))] := hl
  have hT := hI.lt
  obtain ⟨hS, hL, hK9, hLg, hRp, hlog9, hB⟩ := hI.1.ok
  have hN := hS
  have hlog : S.2 0 4 < 512 := by omega
  obtain ⟨hc0, hc1, hc2, hc3⟩ := hT.c
  obtain ⟨uq, euq⟩ : ∃ y, y = x1 % (S.2 0 0 + 1) := ⟨_, rfl⟩
  have huq : uq ≤ S.2 0 0 := by rw [euq]; exact Nat.le_of_lt_succ (Nat.mod_lt _ (by omega))
  obtain ⟨aq, eaq⟩ : ∃ y, y = x2 % (S.2 0 1 + 1) := ⟨_, rfl⟩
  have haq : aq ≤ S.2 0 1 := by rw [eaq]; exact Nat.le_of_lt_succ (Nat.mod_lt _ (by omega))
  have hvq := hB.2.1
  have hh0 : ∃ h, h ≤ 512000 ∧ S.1 0 0 = nI h := by obtain ⟨⟨hz, h1z, h2z⟩, -⟩ := hB; exact ⟨hz, by omega, h2z⟩
  have hvr : ∀ j, ∃ v, v ≤ 512 ∧ S.1 7 j = nI v := fun j => by obtain ⟨vz, v1z, v2z⟩ := hvq j; exact ⟨vz, by omega, v2z⟩
  have ham := amq_lt x1
  refine lv_iload hx hb dL_isSpend_0 (lv_at hl 12 rfl) ?_
  refine lv_aload hx hb dL_isSpend_2 (lv_at hl 10 rfl) ?_
  refine lv_iconst (v := 1) hx hb dL_isSpend_4 (by decide) ?_
  refine k_ild (ad := ad) (k := 17) (i := 10) Z X ct_17_10 (vp_in_nI (n := 1) (by first | assumption | omega) (by decide)) dL_isSpend_5 ?_
  refine lv_topi (fun x_5 e_5 => ?_)
  obtain rfl : x_5 = T.1 11 1 := e_5.trans (by first | (simp only [nI_clamp (show 1 < 2 ^ 31 by omega)]; done) | rfl | (simp only [nI_clamp (show 1 < 2 ^ 31 by omega)]; rfl) | (simp only [nI_clamp (show 1 < 2 ^ 31 by omega)]; simp [sI, sN]; done))
  refine lv_topi (fun x_5 e_5 => ?_)
  obtain rfl : x_5 = nI (S.2 0 0) := e_5.trans (hT.g1)
  refine lv_iconst (v := 1) hx hb dL_isSpend_6 (by decide) ?_
  refine lv_iadd hx hb dL_isSpend_7 ?_
  refine lv_topi (fun x_7 e_7 => ?_)
  obtain rfl : x_7 = nI ((S.2 0 0) + 1) := e_7.trans (nI_add (S.2 0 0) 1)
  refine lv_irem hx hb dL_isSpend_8 (nI_ne0 (by omega) (by omega)) ?_
  refine lv_topi (fun x_8 e_8 => ?_)
  obtain rfl : x_8 = nI uq := e_8.trans ((pk_rem (a := x1) (d := ((S.2 0 0) + 1)) (by omega) (by omega) (by omega)).trans (congrArg nI euq.symm))
  refine lv_istore (lv' := [(14, .int (nI uq)), (0, .ref (ad 0 0)), (1, .ref (ad 17 0)), (2, .ref (ad 17 1)), (3, .ref (ad 17 2)), (4, .ref (ad 17 4)), (5, .ref (ad 17 5)), (6, .ref (ad 17 6)), (7, .ref (ad 17 7)), (8, .ref (ad 17 8)), (9, .ref (ad 17 9)), (10, .ref (ad 17 10)), (11, .int 0), (12, .int (nI x1)), (13, .int (nI x2))]) hx hb dL_isSpend_9 hl (by decide) rfl (fun ls hl => ?_)
  refine lv_iload hx hb dL_isSpend_11 (lv_at hl 14 rfl) ?_
  refine lv_aload hx hb dL_isSpend_13 (lv_at hl 11 rfl) ?_
  refine lv_iconst (v := 2) hx hb dL_isSpend_15 (by decide) ?_
  refine k_ild (ad := ad) (k := 17) (i := 10) Z X ct_17_10 (vp_in_nI (n := 2) (by first | assumption | omega) (by decide)) dL_isSpend_16 ?_
  refine lv_topi (fun x_16 e_16 => ?_)
  obtain rfl : x_16 = T.1 11 2 := e_16.trans (by first | (simp only [nI_clamp (show 2 < 2 ^ 31 by omega)]; done) | rfl | (simp only [nI_clamp (show 2 < 2 ^ 31 by omega)]; rfl) | (simp only [nI_clamp (show 2 < 2 ^ 31 by omega)]; simp [sI, sN]; done))
  refine lv_topi (fun x_16 e_16 => ?_)
  obtain rfl : x_16 = nI (S.2 0 1) := e_16.trans (hT.g2)
  refine lv_iconst (v := 1) hx hb dL_isSpend_17 (by decide) ?_
  refine lv_iadd hx hb dL_isSpend_18 ?_
  refine lv_topi (fun x_18 e_18 => ?_)
  obtain rfl : x_18 = nI ((S.2 0 1) + 1) := e_18.trans (nI_add (S.2 0 1) 1)
  refine lv_irem hx hb dL_isSpend_19 (nI_ne0 (by omega) (by omega)) ?_
  refine lv_topi (fun x_19 e_19 => ?_)
  obtain rfl : x_19 = nI aq := e_19.trans ((pk_rem (a := x2) (d := ((S.2 0 1) + 1)) (by omega) (by omega) (by omega)).trans (congrArg nI eaq.symm))
  refine lv_istore (lv' := [(15, .int (nI aq)), (14, .int (nI uq)), (0, .ref (ad 0 0)), (1, .ref (ad 17 0)), (2, .ref (ad 17 1)), (3, .ref (ad 17 2)), (4, .ref (ad 17 4)), (5, .ref (ad 17 5)), (6, .ref (ad 17 6)), (7, .ref (ad 17 7)), (8, .ref (ad 17 8)), (9, .ref (ad 17 9)), (10, .ref (ad 17 10)), (11, .int 0), (12, .int (nI x1)), (13, .int (nI x2))]) hx hb dL_isSpend_20 hl (by decide) rfl (fun ls hl => ?_)
  have M_36 : ∀ (H : Heap) (locs : List Loc), kX E G s H locs ad (cto G S T o ad) → W p l e (headSpec (Cond.code yL_isSpend cL_isSpend 22 (some .boolean) :: wsL_law) ({ frames := 18, cells := 20, slots := 400, locals := 500 } : Room)).room s m ([.ref (ad 0 0), .ref (ad 17 0), .ref (ad 17 1), .ref (ad 17 2), .ref (ad 17 4), .ref (ad 17 5), .ref (ad 17 6), .ref (ad 17 7), .ref (ad 17 8), .ref (ad 17 9), .ref (ad 17 10), .int 0, .int (nI x1), .int (nI x2)] : List Value).toArray below meth c H locs 0 0 (vx_MQ below (kQi E G (fun r ad1 ct1 => (r = 1 ∧ AK ad ad1) ∧ ∃ S1 A1, ct1 = cto G S1 A1 o ad1 ∧ Mid (n9 + 1) S1 A1)) (kXC E G (fun _ _ _ => False)) ([.ref (ad 0 0), .ref (ad 17 0), .ref (ad 17 1), .ref (ad 17 2), .ref (ad 17 4), .ref (ad 17 5), .ref (ad 17 6), .ref (ad 17 7), .ref (ad 17 8), .ref (ad 17 9), .ref (ad 17 10), .int 0, .int (nI x1), .int (nI x2)] : List Value).toArray s 20 400 (kB E.heap.size)) (F0 m 36 ls [.int (bI (decide (uq < S.2 0 0)))]) := by
    intro H locs X
    refine lv_istore (lv' := [(16, .int (bI (decide (uq < S.2 0 0)))), (15, .int (nI aq)), (14, .int (nI uq)), (0, .ref (ad 0 0)), (1, .ref (ad 17 0)), (2, .ref (ad 17 1)), (3, .ref (ad 17 2)), (4, .ref (ad 17 4)), (5, .ref (ad 17 5)), (6, .ref (ad 17 6)), (7, .ref (ad 17 7)), (8, .ref (ad 17 8)), (9, .ref (ad 17 9)), (10, .ref (ad 17 10)), (11, .int 0), (12, .int (nI x1)), (13, .int (nI x2))]) hx hb dL_isSpend_36 hl (by decide) rfl (fun ls hl => ?_)
    have M_57 : ∀ (H : Heap) (locs : List Loc), kX E G s H locs ad (cto G S T o ad) → W p l e (headSpec (Cond.code yL_isSpend cL_isSpend 22 (some .boolean) :: wsL_law) ({ frames := 18, cells := 20, slots := 400, locals := 500 } : Room)).room s m ([.ref (ad 0 0), .ref (ad 17 0), .ref (ad 17 1), .ref (ad 17 2), .ref (ad 17 4), .ref (ad 17 5), .ref (ad 17 6), .ref (ad 17 7), .ref (ad 17 8), .ref (ad 17 9), .ref (ad 17 10), .int 0, .int (nI x1), .int (nI x2)] : List Value).toArray below meth c H locs 0 0 (vx_MQ below (kQi E G (fun r ad1 ct1 => (r = 1 ∧ AK ad ad1) ∧ ∃ S1 A1, ct1 = cto G S1 A1 o ad1 ∧ Mid (n9 + 1) S1 A1)) (kXC E G (fun _ _ _ => False)) ([.ref (ad 0 0), .ref (ad 17 0), .ref (ad 17 1), .ref (ad 17 2), .ref (ad 17 4), .ref (ad 17 5), .ref (ad 17 6), .ref (ad 17 7), .ref (ad 17 8), .ref (ad 17 9), .ref (ad 17 10), .int 0, .int (nI x1), .int (nI x2)] : List Value).toArray s 20 400 (kB E.heap.size)) (F0 m 57 ls [.int (bI (arM S uq aq))]) := by
      intro H locs X
      refine lv_istore (lv' := [(17, .int (bI (arM S uq aq))), (16, .int (bI (decide (uq < S.2 0 0)))), (15, .int (nI aq)), (14, .int (nI uq)), (0, .ref (ad 0 0)), (1, .ref (ad 17 0)), (2, .ref (ad 17 1)), (3, .ref (ad 17 2)), (4, .ref (ad 17 4)), (5, .ref (ad 17 5)), (6, .ref (ad 17 6)), (7, .ref (ad 17 7)), (8, .ref (ad 17 8)), (9, .ref (ad 17 9)), (10, .ref (ad 17 10)), (11, .int 0), (12, .int (nI x1)), (13, .int (nI x2))]) hx hb dL_isSpend_57 hl (by decide) rfl (fun ls hl => ?_)
      have M_90 : ∀ (H : Heap) (locs : List Loc), kX E G s H locs ad (cto G S T o ad) → W p l e (headSpec (Cond.code yL_isSpend cL_isSpend 22 (some .boolean) :: wsL_law) ({ frames := 18, cells := 20, slots := 400, locals := 500 } : Room)).room s m ([.ref (ad 0 0), .ref (ad 17 0), .ref (ad 17 1), .ref (ad 17 2), .ref (ad 17 4), .ref (ad 17 5), .ref (ad 17 6), .ref (ad 17 7), .ref (ad 17 8), .ref (ad 17 9), .ref (ad 17 10), .int 0, .int (nI x1), .int (nI x2)] : List Value).toArray below meth c H locs 0 0 (vx_MQ below (kQi E G (fun r ad1 ct1 => (r = 1 ∧ AK ad ad1) ∧ ∃ S1 A1, ct1 = cto G S1 A1 o ad1 ∧ Mid (n9 + 1) S1 A1)) (kXC E G (fun _ _ _ => False)) ([.ref (ad 0 0), .ref (ad 17 0), .ref (ad 17 1), .ref (ad 17 2), .ref (ad 17 4), .ref (ad 17 5), .ref (ad 17 6), .ref (ad 17 7), .ref (ad 17 8), .ref (ad 17 9), .ref (ad 17 10), .int 0, .int (nI x1), .int (nI x2)] : List Value).toArray s 20 400 (kB E.heap.size)) (F0 m 90 ls [.int (bI (caM S uq aq))]) := by
        intro H locs X
        refine lv_istore (lv' := [(18, .int (bI (caM S uq aq))), (17, .int (bI (arM S uq aq))), (16, .int (bI (decide (uq < S.2 0 0)))), (15, .int (nI aq)), (14, .int (nI uq)), (0, .ref (ad 0 0)), (1, .ref (ad 17 0)), (2, .ref (ad 17 1)), (3, .ref (ad 17 2)), (4, .ref (ad 17 4)), (5, .ref (ad 17 5)), (6, .ref (ad 17 6)), (7, .ref (ad 17 7)), (8, .ref (ad 17 8)), (9, .ref (ad 17 9)), (10, .ref (ad 17 10)), (11, .int 0), (12, .int (nI x1)), (13, .int (nI x2))]) hx hb dL_isSpend_90 hl (by decide) rfl (fun ls hl => ?_)
        refine lv_iload hx hb dL_isSpend_92 (lv_at hl 16 rfl) ?_
        refine lv_if_ne (tgt := 350) hx hb dL_isSpend_94 (by decide) (fun c_94 => ?_) (fun c_94 => ?_)
        · exact absurd c_94 (by decide)
        · refine lv_aload hx hb dL_isSpend_97 (lv_at hl 15 rfl) ?_
          refine lv_iconst (v := 3) hx hb dL_isSpend_99 (by decide) ?_
          refine k_ild (ad := ad) (k := 17) (i := 10) Z X ct_17_10 (vp_in_nI (n := 3) (by first | assumption | omega) (by decide)) dL_isSpend_100 ?_
          refine lv_topi (fun x_100 e_100 => ?_)
          obtain rfl : x_100 = T.1 11 3 := e_100.trans (by first | (simp only [nI_clamp (show 3 < 2 ^ 31 by omega)]; done) | rfl | (simp only [nI_clamp (show 3 < 2 ^ 31 by omega)]; rfl) | (simp only [nI_clamp (show 3 < 2 ^ 31 by omega)]; simp [sI, sN]; done))
          refine lv_topi (fun x_100 e_100 => ?_)
          obtain rfl : x_100 = nI (S.2 0 2) := e_100.trans (hT.g3)
          refine lv_bipush (v := 30) hx hb dL_isSpend_101 (by decide) ?_
          refine lv_icmp_ge (tgt := 350) hx hb dL_isSpend_103 (by decide) (fun c_103 => ?_) (fun c_103 => ?_)
          · have c_103 : 30 ≤ S.2 0 2 := (nI_leI (a := 30) (b := S.2 0 2) (by omega) (by omega)).mp c_103
            refine W.widen (k := 0) (n := 0) (by omega) (by omega) ?_
            exact t_isSp_t (w := 0) (by decide) hE hn9 hx1 hx2 hI huq haq Z hr hlocks _ _ _ X (lv_sub hl [5, 6, 7, 8, 9, 10, 11, 12, 13, 14, 15, 16, 17, 18, 4, 3, 2, 1, 0] rfl)
          · have c_103 : ¬ 30 ≤ S.2 0 2 := fun h => c_103 ((nI_leI (a := 30) (b := S.2 0 2) (by omega) (by omega)).mpr h)
            have M_163 : ∀ (H : Heap) (locs : List Loc), kX E G s H locs ad (cto G S T o ad) → W p l e (headSpec (Cond.code yL_isSpend cL_isSpend 22 (some .boolean) :: wsL_law) ({ frames := 18, cells := 20, slots := 400, locals := 500 } : Room)).room s m ([.ref (ad 0 0), .ref (ad 17 0), .ref (ad 17 1), .ref (ad 17 2), .ref (ad 17 4), .ref (ad 17 5), .ref (ad 17 6), .ref (ad 17 7), .ref (ad 17 8), .ref (ad 17 9), .ref (ad 17 10), .int 0, .int (nI x1), .int (nI x2)] : List Value).toArray below meth c H locs 0 0 (vx_MQ below (kQi E G (fun r ad1 ct1 => (r = 1 ∧ AK ad ad1) ∧ ∃ S1 A1, ct1 = cto G S1 A1 o ad1 ∧ Mid (n9 + 1) S1 A1)) (kXC E G (fun _ _ _ => False)) ([.ref (ad 0 0), .ref (ad 17 0), .ref (ad 17 1), .ref (ad 17 2), .ref (ad 17 4), .ref (ad 17 5), .ref (ad 17 6), .ref (ad 17 7), .ref (ad 17 8), .ref (ad 17 9), .ref (ad 17 10), .int 0, .int (nI x1), .int (nI x2)] : List Value).toArray s 20 400 (kB E.heap.size)) (F0 m 163 ls [.int (nI (amq x1))]) := by
              intro H locs X
              refine lv_istore (lv' := [(19, .int (nI (amq x1))), (18, .int (bI (caM S uq aq))), (17, .int (bI (arM S uq aq))), (16, .int (bI (decide (uq < S.2 0 0)))), (15, .int (nI aq)), (14, .int (nI uq)), (0, .ref (ad 0 0)), (1, .ref (ad 17 0)), (2, .ref (ad 17 1)), (3, .ref (ad 17 2)), (4, .ref (ad 17 4)), (5, .ref (ad 17 5)), (6, .ref (ad 17 6)), (7, .ref (ad 17 7)), (8, .ref (ad 17 8)), (9, .ref (ad 17 9)), (10, .ref (ad 17 10)), (11, .int 0), (12, .int (nI x1)), (13, .int (nI x2))]) hx hb dL_isSpend_163 hl (by decide) rfl (fun ls hl => ?_)
              have M_182 : ∀ (H : Heap) (locs : List Loc), kX E G s H locs ad (cto G S T o ad) → W p l e (headSpec (Cond.code yL_isSpend cL_isSpend 22 (some .boolean) :: wsL_law) ({ frames := 18, cells := 20, slots := 400, locals := 500 } : Room)).room s m ([.ref (ad 0 0), .ref (ad 17 0), .ref (ad 17 1), .ref (ad 17 2), .ref (ad 17 4), .ref (ad 17 5), .ref (ad 17 6), .ref (ad 17 7), .ref (ad 17 8), .ref (ad 17 9), .ref (ad 17 10), .int 0, .int (nI x1), .int (nI x2)] : List Value).toArray below meth c H locs 0 0 (vx_MQ below (kQi E G (fun r ad1 ct1 => (r = 1 ∧ AK ad ad1) ∧ ∃ S1 A1, ct1 = cto G S1 A1 o ad1 ∧ Mid (n9 + 1) S1 A1)) (kXC E G (fun _ _ _ => False)) ([.ref (ad 0 0), .ref (ad 17 0), .ref (ad 17 1), .ref (ad 17 2), .ref (ad 17 4), .ref (ad 17 5), .ref (ad 17 6), .ref (ad 17 7), .ref (ad 17 8), .ref (ad 17 9), .ref (ad 17 10), .int 0, .int (nI x1), .int (nI x2)] : List Value).toArray s 20 400 (kB E.heap.size)) (F0 m 182 ls [.int (bI (decide (0 < (amq x1)) && decide ((amq x1) < 1000001)))]) := by
                intro H locs X
                refine lv_istore (lv' := [(20, .int (bI (decide (0 < (amq x1)) && decide ((amq x1) < 1000001)))), (19, .int (nI (amq x1))), (18, .int (bI (caM S uq aq))), (17, .int (bI (arM S uq aq))), (16, .int (bI (decide (uq < S.2 0 0)))), (15, .int (nI aq)), (14, .int (nI uq)), (0, .ref (ad 0 0)), (1, .ref (ad 17 0)), (2, .ref (ad 17 1)), (3, .ref (ad 17 2)), (4, .ref (ad 17 4)), (5, .ref (ad 17 5)), (6, .ref (ad 17 6)), (7, .ref (ad 17 7)), (8, .ref (ad 17 8)), (9, .ref (ad 17 9)), (10, .ref (ad 17 10)), (11, .int 0), (12, .int (nI x1)), (13, .int (nI x2))]) hx hb dL_isSpend_182 hl (by decide) rfl (fun ls hl => ?_)
                have M_233 : ∀ (H : Heap) (locs : List Loc), kX E G s H locs ad (cto G S T o ad) → W p l e (headSpec (Cond.code yL_isSpend cL_isSpend 22 (some .boolean) :: wsL_law) ({ frames := 18, cells := 20, slots := 400, locals := 500 } : Room)).room s m ([.ref (ad 0 0), .ref (ad 17 0), .ref (ad 17 1), .ref (ad 17 2), .ref (ad 17 4), .ref (ad 17 5), .ref (ad 17 6), .ref (ad 17 7), .ref (ad 17 8), .ref (ad 17 9), .ref (ad 17 10), .int 0, .int (nI x1), .int (nI x2)] : List Value).toArray below meth c H locs 0 0 (vx_MQ below (kQi E G (fun r ad1 ct1 => (r = 1 ∧ AK ad ad1) ∧ ∃ S1 A1, ct1 = cto G S1 A1 o ad1 ∧ Mid (n9 + 1) S1 A1)) (kXC E G (fun _ _ _ => False)) ([.ref (ad 0 0), .ref (ad 17 0), .ref (ad 17 1), .ref (ad 17 2), .ref (ad 17 4), .ref (ad 17 5), .ref (ad 17 6), .ref (ad 17 7), .ref (ad 17 8), .ref (ad 17 9), .ref (ad 17 10), .int 0, .int (nI x1), .int (nI x2)] : List Value).toArray s 20 400 (kB E.heap.size)) (F0 m 233 ls [.int (bI (caS S uq aq (amq x1)))]) := by
                  intro H locs X
                  refine lv_istore (lv' := [(18, .int (bI (caS S uq aq (amq x1)))), (20, .int (bI (decide (0 < (amq x1)) && decide ((amq x1) < 1000001)))), (19, .int (nI (amq x1))), (17, .int (bI (arM S uq aq))), (16, .int (bI (decide (uq < S.2 0 0)))), (15, .int (nI aq)), (14, .int (nI uq)), (0, .ref (ad 0 0)), (1, .ref (ad 17 0)), (2, .ref (ad 17 1)), (3, .ref (ad 17 2)), (4, .ref (ad 17 4)), (5, .ref (ad 17 5)), (6, .ref (ad 17 6)), (7, .ref (ad 17 7)), (8, .ref (ad 17 8)), (9, .ref (ad 17 9)), (10, .ref (ad 17 10)), (11, .int 0), (12, .int (nI x1)), (13, .int (nI x2))]) hx hb dL_isSpend_233 hl (by decide) rfl (fun ls hl => ?_)
                  refine lv_iload hx hb dL_isSpend_235 (lv_at hl 0 rfl) ?_
                  refine lv_if_eq (tgt := 292) hx hb dL_isSpend_237 (by decide) (fun c_237 => ?_) (fun c_237 => ?_)
                  · have c_237 : (caS S uq aq (amq x1)) = false := bI_0 c_237
                    rw [c_237] at hl
                    cases har : arM S uq aq with
                    | false =>
                      rw [har] at hl
                      refine lv_aload_n hx hb dL_isSpend_292 rfl (lv_at hl 7 rfl) ?_
                      refine lv_bipush (v := 7) hx hb dL_isSpend_293 (by decide) ?_
                      refine lv_iload hx hb dL_isSpend_295 (lv_at hl 6 rfl) ?_
                      refine lv_iload hx hb dL_isSpend_297 (lv_at hl 5 rfl) ?_
                      refine lv_iload hx hb dL_isSpend_299 (lv_at hl 2 rfl) ?_
                      refine lv_iconst (v := 0) hx hb dL_isSpend_301 (by decide) ?_
                      refine k_xRi X (k_xrunSW (As := [.ref (ad 0 0), .int 7, .int (nI uq), .int (nI aq), .int (nI (amq x1)), .int 0]) (rest := []) Z X (c_L_does_7 l E G S T o ad (nI uq) (nI aq) (nI (amq x1)) 0 hE hS hL hK9) (k_cwSW 6 Z.1.2.2.2.2 (inU_6 _ (List.mem_of_getElem? (i := 3) rfl)) (inU_6 _ (List.mem_of_getElem? (i := 4) rfl)) (inU_6 _ (List.mem_of_getElem? (i := 5) rfl)) (inU_6 _ (List.mem_of_getElem? (i := 6) rfl)) rfl rfl (by decide +kernel) ⟨(Nat.le_of_ble_eq_true rfl), (Nat.le_of_ble_eq_true rfl)⟩) rfl hl.1 rfl (Nat.le_of_ble_eq_true rfl) dL_isSpend_302 ⟨(Nat.le_of_ble_eq_true rfl), (Nat.le_of_ble_eq_true rfl)⟩) (fun _ _ _ _ _ _ _ hp => hp.elim) (fun r_302 ad1 ct1 H locs hp X => ?_)
                      have hC : cSpend S (kdS S) (nI uq) (nI aq) (nI (amq x1)) = 1 := by rw [cSpend_v (by omega) (by omega) (by omega) (by omega), har]; rfl
                      obtain ⟨hAK, hq⟩ := hp
                      rcases hq with ⟨z, -⟩ | ⟨z, hr_, hb_⟩ | ⟨z, -⟩ | ⟨z, -⟩
                      case inl => exact absurd (hC.symm.trans z) (by decide)
                      case inr.inr.inl => exact absurd (hC.symm.trans z) (by decide)
                      case inr.inr.inr => exact absurd (hC.symm.trans z) (by decide)
                      subst hr_
                      rw [hb_] at X
                      rw [← hAK.2.2 10] at hl
                      refine lv_iload hx hb dL_isSpend_305 (lv_at hl 3 rfl) ?_
                      refine lv_if_ne (tgt := 315) hx hb dL_isSpend_307 (by decide) (fun c_307 => ?_) (fun c_307 => ?_)
                      · exact absurd c_307 (by decide)
                      · refine lv_ldc (v := (-3000000)) hx hb Z.1.2.2.2.1 (Z.1.2.2.2.2 _ (inU_1 _ (List.mem_of_getElem? (i := 5) rfl))) dL_isSpend_310 ?_
                        refine lv_goto (tgt := 341) hx hb dL_isSpend_312 (by decide) ?_
                        refine lv_icmp_ne (tgt := 348) hx hb dL_isSpend_341 (by decide) (fun c_341 => ?_) (fun c_341 => ?_)
                        · exact absurd rfl c_341
                        · refine lv_iconst (v := 1) hx hb dL_isSpend_344 (by decide) ?_
                          refine lv_goto (tgt := 349) hx hb dL_isSpend_345 (by decide) ?_
                          exact vx_ret (k_iret Z X hr hlocks rfl (by omega) (by omega) dL_isSpend_349 ⟨⟨rfl, hAK⟩, S, T, rfl, hI.mid (by omega)⟩)
                    | true =>
                      rw [har] at hl
                      cases hr9 : (decide (0 < (amq x1)) && decide ((amq x1) < 1000001)) with
                      | false =>
                        rw [hr9] at hl
                        refine lv_aload_n hx hb dL_isSpend_292 rfl (lv_at hl 7 rfl) ?_
                        refine lv_bipush (v := 7) hx hb dL_isSpend_293 (by decide) ?_
                        refine lv_iload hx hb dL_isSpend_295 (lv_at hl 6 rfl) ?_
                        refine lv_iload hx hb dL_isSpend_297 (lv_at hl 5 rfl) ?_
                        refine lv_iload hx hb dL_isSpend_299 (lv_at hl 2 rfl) ?_
                        refine lv_iconst (v := 0) hx hb dL_isSpend_301 (by decide) ?_
                        refine k_xRi X (k_xrunSW (As := [.ref (ad 0 0), .int 7, .int (nI uq), .int (nI aq), .int (nI (amq x1)), .int 0]) (rest := []) Z X (c_L_does_7 l E G S T o ad (nI uq) (nI aq) (nI (amq x1)) 0 hE hS hL hK9) (k_cwSW 6 Z.1.2.2.2.2 (inU_6 _ (List.mem_of_getElem? (i := 3) rfl)) (inU_6 _ (List.mem_of_getElem? (i := 4) rfl)) (inU_6 _ (List.mem_of_getElem? (i := 5) rfl)) (inU_6 _ (List.mem_of_getElem? (i := 6) rfl)) rfl rfl (by decide +kernel) ⟨(Nat.le_of_ble_eq_true rfl), (Nat.le_of_ble_eq_true rfl)⟩) rfl hl.1 rfl (Nat.le_of_ble_eq_true rfl) dL_isSpend_302 ⟨(Nat.le_of_ble_eq_true rfl), (Nat.le_of_ble_eq_true rfl)⟩) (fun _ _ _ _ _ _ _ hp => hp.elim) (fun r_302 ad1 ct1 H locs hp X => ?_)
                        have hC : cSpend S (kdS S) (nI uq) (nI aq) (nI (amq x1)) = 2 := by rw [cSpend_v (by omega) (by omega) (by omega) (by omega), har, hr9]; rfl
                        obtain ⟨hAK, hq⟩ := hp
                        rcases hq with ⟨z, -⟩ | ⟨z, -⟩ | ⟨z, hr_, hb_⟩ | ⟨z, -⟩
                        case inl => exact absurd (hC.symm.trans z) (by decide)
                        case inr.inl => exact absurd (hC.symm.trans z) (by decide)
                        case inr.inr.inr => exact absurd (hC.symm.trans z) (by decide)
                        subst hr_
                        rw [hb_] at X
                        rw [← hAK.2.2 10] at hl
                        refine lv_iload hx hb dL_isSpend_305 (lv_at hl 3 rfl) ?_
                        refine lv_if_ne (tgt := 315) hx hb dL_isSpend_307 (by decide) (fun c_307 => ?_) (fun c_307 => ?_)
                        · refine lv_iload hx hb dL_isSpend_315 (lv_at hl 1 rfl) ?_
                          refine lv_if_ne (tgt := 325) hx hb dL_isSpend_317 (by decide) (fun c_317 => ?_) (fun c_317 => ?_)
                          · exact absurd c_317 (by decide)
                          · refine lv_ldc (v := (-2000000)) hx hb Z.1.2.2.2.1 (Z.1.2.2.2.2 _ (inU_1 _ (List.mem_of_getElem? (i := 4) rfl))) dL_isSpend_320 ?_
                            refine lv_goto (tgt := 341) hx hb dL_isSpend_322 (by decide) ?_
                            refine lv_icmp_ne (tgt := 348) hx hb dL_isSpend_341 (by decide) (fun c_341 => ?_) (fun c_341 => ?_)
                            · exact absurd rfl c_341
                            · refine lv_iconst (v := 1) hx hb dL_isSpend_344 (by decide) ?_
                              refine lv_goto (tgt := 349) hx hb dL_isSpend_345 (by decide) ?_
                              exact vx_ret (k_iret Z X hr hlocks rfl (by omega) (by omega) dL_isSpend_349 ⟨⟨rfl, hAK⟩, S, T, rfl, hI.mid (by omega)⟩)
                        · exact absurd c_307 (by decide)
                      | true =>
                        rw [hr9] at hl
                        refine lv_aload_n hx hb dL_isSpend_292 rfl (lv_at hl 7 rfl) ?_
                        refine lv_bipush (v := 7) hx hb dL_isSpend_293 (by decide) ?_
                        refine lv_iload hx hb dL_isSpend_295 (lv_at hl 6 rfl) ?_
                        refine lv_iload hx hb dL_isSpend_297 (lv_at hl 5 rfl) ?_
                        refine lv_iload hx hb dL_isSpend_299 (lv_at hl 2 rfl) ?_
                        refine lv_iconst (v := 0) hx hb dL_isSpend_301 (by decide) ?_
                        refine k_xRi X (k_xrunSW (As := [.ref (ad 0 0), .int 7, .int (nI uq), .int (nI aq), .int (nI (amq x1)), .int 0]) (rest := []) Z X (c_L_does_7 l E G S T o ad (nI uq) (nI aq) (nI (amq x1)) 0 hE hS hL hK9) (k_cwSW 6 Z.1.2.2.2.2 (inU_6 _ (List.mem_of_getElem? (i := 3) rfl)) (inU_6 _ (List.mem_of_getElem? (i := 4) rfl)) (inU_6 _ (List.mem_of_getElem? (i := 5) rfl)) (inU_6 _ (List.mem_of_getElem? (i := 6) rfl)) rfl rfl (by decide +kernel) ⟨(Nat.le_of_ble_eq_true rfl), (Nat.le_of_ble_eq_true rfl)⟩) rfl hl.1 rfl (Nat.le_of_ble_eq_true rfl) dL_isSpend_302 ⟨(Nat.le_of_ble_eq_true rfl), (Nat.le_of_ble_eq_true rfl)⟩) (fun _ _ _ _ _ _ _ hp => hp.elim) (fun r_302 ad1 ct1 H locs hp X => ?_)
                        have hC : cSpend S (kdS S) (nI uq) (nI aq) (nI (amq x1)) = 3 := by rw [cSpend_v (by omega) (by omega) (by omega) (by omega), har, hr9, c_237]; rfl
                        obtain ⟨hAK, hq⟩ := hp
                        rcases hq with ⟨z, -⟩ | ⟨z, -⟩ | ⟨z, -⟩ | ⟨z, hr_, hb_⟩
                        case inl => exact absurd (hC.symm.trans z) (by decide)
                        case inr.inl => exact absurd (hC.symm.trans z) (by decide)
                        case inr.inr.inl => exact absurd (hC.symm.trans z) (by decide)
                        subst hr_
                        rw [hb_] at X
                        rw [← hAK.2.2 10] at hl
                        refine lv_iload hx hb dL_isSpend_305 (lv_at hl 3 rfl) ?_
                        refine lv_if_ne (tgt := 315) hx hb dL_isSpend_307 (by decide) (fun c_307 => ?_) (fun c_307 => ?_)
                        · refine lv_iload hx hb dL_isSpend_315 (lv_at hl 1 rfl) ?_
                          refine lv_if_ne (tgt := 325) hx hb dL_isSpend_317 (by decide) (fun c_317 => ?_) (fun c_317 => ?_)
                          · refine lv_iload hx hb dL_isSpend_325 (lv_at hl 0 rfl) ?_
                            refine lv_if_eq (tgt := 339) hx hb dL_isSpend_327 (by decide) (fun c_327 => ?_) (fun c_327 => ?_)
                            · refine lv_ldc (v := (-1000000)) hx hb Z.1.2.2.2.1 (Z.1.2.2.2.2 _ (inU_1 _ (List.mem_of_getElem? (i := 8) rfl))) dL_isSpend_339 ?_
                              refine lv_icmp_ne (tgt := 348) hx hb dL_isSpend_341 (by decide) (fun c_341 => ?_) (fun c_341 => ?_)
                              · exact absurd rfl c_341
                              · refine lv_iconst (v := 1) hx hb dL_isSpend_344 (by decide) ?_
                                refine lv_goto (tgt := 349) hx hb dL_isSpend_345 (by decide) ?_
                                exact vx_ret (k_iret Z X hr hlocks rfl (by omega) (by omega) dL_isSpend_349 ⟨⟨rfl, hAK⟩, S, T, rfl, hI.mid (by omega)⟩)
                            · exact absurd c_327 (by decide)
                          · exact absurd c_317 (by decide)
                        · exact absurd c_307 (by decide)
                  · have c_237 : (caS S uq aq (amq x1)) = true := bI_1 c_237
                    have hcs := c_237
                    simp only [caS, Bool.and_eq_true] at hcs
                    have hcm := hcs.1
                    have hrg : (decide (0 < (amq x1)) && decide ((amq x1) < 1000001)) = true := by rw [Bool.and_eq_true]; exact hcs.2.1
                    have hbg := of_decide_eq_true hcs.2.2.2
                    simp only [caM, arM, Bool.and_eq_true, decide_eq_true_eq, Bool.not_eq_true'] at hcm
                    obtain ⟨⟨hu1, ha1⟩, hg1, h81⟩ := hcm
                    have hmm := hT.mm hN (j := aq) ha1
                    have hmm1 := hmm.1
                    have hau := hN.2.2.2.2.1 aq ha1
                    have har : arM S uq aq = true := by rw [arM, decide_eq_true hu1, decide_eq_true ha1]; rfl
                    rw [har] at hl
                    rw [hrg] at hl
                    rw [c_237] at hl
                    obtain ⟨vq, hvq1, hvq2⟩ := hvq aq
                    have hx1m : (amq x1) ≤ 1000000 := by have z := hcs.2.1.2; have z2 := of_decide_eq_true z; omega
                    refine lv_aload hx hb dL_isSpend_240 (lv_at hl 13 rfl) ?_
                    refine lv_aload hx hb dL_isSpend_242 (lv_at hl 17 rfl) ?_
                    refine lv_iconst (v := 3) hx hb dL_isSpend_244 (by decide) ?_
                    refine k_ild (ad := ad) (k := 17) (i := 10) Z X ct_17_10 (vp_in_nI (n := 3) (by first | assumption | omega) (by decide)) dL_isSpend_245 ?_
                    refine lv_topi (fun x_245 e_245 => ?_)
                    obtain rfl : x_245 = T.1 11 3 := e_245.trans (by first | (simp only [nI_clamp (show 3 < 2 ^ 31 by omega)]; done) | rfl | (simp only [nI_clamp (show 3 < 2 ^ 31 by omega)]; rfl) | (simp only [nI_clamp (show 3 < 2 ^ 31 by omega)]; simp [sI, sN]; done))
                    refine lv_topi (fun x_245 e_245 => ?_)
                    obtain rfl : x_245 = nI (S.2 0 2) := e_245.trans (hT.g3)
                    refine lv_iload hx hb dL_isSpend_246 (lv_at hl 5 rfl) ?_
                    refine lv_bipush (v := 64) hx hb dL_isSpend_248 (by decide) ?_
                    refine lv_aload_n hx hb dL_isSpend_250 rfl (lv_at hl 10 rfl) ?_
                    refine lv_iload hx hb dL_isSpend_251 (lv_at hl 5 rfl) ?_
                    refine k_ild (ad := ad) (k := 17) (i := 2) Z X ct_17_2 (vp_in_nI (n := aq) (by first | assumption | omega) (by decide)) dL_isSpend_253 ?_
                    refine lv_topi (fun x_253 e_253 => ?_)
                    obtain rfl : x_253 = T.1 3 aq := e_253.trans (by first | (simp only [nI_clamp (show aq < 2 ^ 31 by omega)]; done) | rfl | (simp only [nI_clamp (show aq < 2 ^ 31 by omega)]; rfl) | (simp only [nI_clamp (show aq < 2 ^ 31 by omega)]; simp [sI, sN]; done))
                    refine lv_topi (fun x_253 e_253 => ?_)
                    obtain rfl : x_253 = nI vq := e_253.trans ((hT.v ha1).trans hvq2)
                    refine lv_imul hx hb dL_isSpend_254 ?_
                    refine lv_topi (fun x_254 e_254 => ?_)
                    obtain rfl : x_254 = nI (64 * vq) := e_254.trans (pk_mul 64 vq)
                    refine lv_iadd hx hb dL_isSpend_255 ?_
                    refine lv_topi (fun x_255 e_255 => ?_)
                    obtain rfl : x_255 = nI (aq + (64 * vq)) := e_255.trans (nI_add aq (64 * vq))
                    refine k_ist (ad := ad) (k := 17) (i := 6) Z X ct_17_6 (vp_in_nI (n := (S.2 0 2)) (by first | assumption | omega) (by decide)) dL_isSpend_256 (fun H locs X => ?_)
                    have X : kX E G s H locs ad (cto G S (sI T 7 (S.2 0 2) (nI (aq + (64 * vq)))) o ad) := X.eq (st_17 (a := 6) (by decide) (S.2 0 2) _ (by omega))
                    refine lv_aload hx hb dL_isSpend_257 (lv_at hl 14 rfl) ?_
                    refine lv_aload hx hb dL_isSpend_259 (lv_at hl 17 rfl) ?_
                    refine lv_iconst (v := 3) hx hb dL_isSpend_261 (by decide) ?_
                    refine k_ild (ad := ad) (k := 17) (i := 10) Z X ct_17_10 (vp_in_nI (n := 3) (by first | assumption | omega) (by decide)) dL_isSpend_262 ?_
                    refine lv_topi (fun x_262 e_262 => ?_)
                    obtain rfl : x_262 = T.1 11 3 := e_262.trans (by first | (simp only [nI_clamp (show 3 < 2 ^ 31 by omega)]; done) | rfl | (simp only [nI_clamp (show 3 < 2 ^ 31 by omega)]; rfl) | (simp only [nI_clamp (show 3 < 2 ^ 31 by omega)]; simp [sI, sN]; done))
                    refine lv_topi (fun x_262 e_262 => ?_)
                    obtain rfl : x_262 = nI (S.2 0 2) := e_262.trans (hT.g3)
                    refine lv_iload hx hb dL_isSpend_263 (lv_at hl 2 rfl) ?_
                    refine k_ist (ad := ad) (k := 17) (i := 7) Z X ct_17_7 (vp_in_nI (n := (S.2 0 2)) (by first | assumption | omega) (by decide)) dL_isSpend_265 (fun H locs X => ?_)
                    have X : kX E G s H locs ad (cto G S (sI (sI T 7 (S.2 0 2) (nI (aq + (64 * vq)))) 8 (S.2 0 2) (nI (amq x1))) o ad) := X.eq (st_17 (a := 7) (by decide) (S.2 0 2) _ (by omega))
                    refine lv_aload hx hb dL_isSpend_266 (lv_at hl 12 rfl) ?_
                    refine lv_aload_n hx hb dL_isSpend_268 rfl (lv_at hl 9 rfl) ?_
                    refine lv_iload hx hb dL_isSpend_269 (lv_at hl 5 rfl) ?_
                    refine k_ild (ad := ad) (k := 17) (i := 1) Z X ct_17_1 (vp_in_nI (n := aq) (by first | assumption | omega) (by decide)) dL_isSpend_271 ?_
                    refine lv_topi (fun x_271 e_271 => ?_)
                    obtain rfl : x_271 = T.1 2 aq := e_271.trans (by first | (simp only [nI_clamp (show aq < 2 ^ 31 by omega)]; done) | rfl | (simp only [nI_clamp (show aq < 2 ^ 31 by omega)]; rfl) | (simp only [nI_clamp (show aq < 2 ^ 31 by omega)]; simp [sI, sN]; done))
                    refine lv_topi (fun x_271 e_271 => ?_)
                    obtain rfl : x_271 = nI (encm S aq) := e_271.trans (hT.m (by omega))
                    refine lv_bipush (v := 16) hx hb dL_isSpend_272 (by decide) ?_
                    refine lv_idiv hx hb dL_isSpend_274 (by decide) ?_
                    refine lv_topi (fun x_274 e_274 => ?_)
                    obtain rfl : x_274 = nI ((encm S aq) / 16) := e_274.trans ((pk_div (a := (encm S aq)) (d := 16) (by have := (hT.mm hN (j := aq) (by omega)).1; omega) (by omega) (by omega)))
                    refine lv_bipush (v := 8) hx hb dL_isSpend_275 (by decide) ?_
                    refine lv_irem hx hb dL_isSpend_277 (by decide) ?_
                    refine lv_topi (fun x_277 e_277 => ?_)
                    obtain rfl : x_277 = nI (S.2 2 aq) := e_277.trans ((pk_rem (a := ((encm S aq) / 16)) (d := 8) (by have := (hT.mm hN (j := aq) (by omega)).1; omega) (by omega) (by omega)).trans (congrArg nI (hT.mm hN (j := aq) (by omega)).2.2.1))
                    refine lv_dup2_11 hx hb dL_isSpend_278 rfl rfl ?_
                    refine k_ild (ad := ad) (k := 17) (i := 5) Z X ct_17_5 (vp_in_nI (n := (S.2 2 aq)) (by first | assumption | omega) (by decide)) dL_isSpend_279 ?_
                    refine lv_topi (fun x_279 e_279 => ?_)
                    obtain rfl : x_279 = T.1 6 (S.2 2 aq) := e_279.trans (by first | (simp only [nI_clamp (show S.2 2 aq < 2 ^ 31 by omega)]; done) | rfl | (simp only [nI_clamp (show S.2 2 aq < 2 ^ 31 by omega)]; rfl) | (simp only [nI_clamp (show S.2 2 aq < 2 ^ 31 by omega)]; simp [sI, sN]; done))
                    refine lv_topi (fun x_279 e_279 => ?_)
                    obtain rfl : x_279 = S.1 3 (S.2 2 aq) := e_279.trans (hT.b (by omega))
                    refine lv_iload hx hb dL_isSpend_280 (lv_at hl 2 rfl) ?_
                    refine lv_isub hx hb dL_isSpend_282 ?_
                    refine k_ist (ad := ad) (k := 17) (i := 5) Z X ct_17_5 (vp_in_nI (n := (S.2 2 aq)) (by first | assumption | omega) (by decide)) dL_isSpend_283 (fun H locs X => ?_)
                    have X : kX E G s H locs ad (cto G S (sI (sI (sI T 7 (S.2 0 2) (nI (aq + (64 * vq)))) 8 (S.2 0 2) (nI (amq x1))) 6 (S.2 2 aq) ((S.1 3 (S.2 2 aq)) - (nI (amq x1)))) o ad) := X.eq (st_17 (a := 5) (by decide) (S.2 2 aq) _ (by omega))
                    refine lv_aload hx hb dL_isSpend_284 (lv_at hl 17 rfl) ?_
                    refine lv_iconst (v := 3) hx hb dL_isSpend_286 (by decide) ?_
                    refine lv_dup2_11 hx hb dL_isSpend_287 rfl rfl ?_
                    refine k_ild (ad := ad) (k := 17) (i := 10) Z X ct_17_10 (vp_in_nI (n := 3) (by first | assumption | omega) (by decide)) dL_isSpend_288 ?_
                    refine lv_topi (fun x_288 e_288 => ?_)
                    obtain rfl : x_288 = T.1 11 3 := e_288.trans (by first | (simp only [nI_clamp (show 3 < 2 ^ 31 by omega)]; done) | rfl | (simp only [nI_clamp (show 3 < 2 ^ 31 by omega)]; rfl) | (simp only [nI_clamp (show 3 < 2 ^ 31 by omega)]; simp [sI, sN]; done))
                    refine lv_topi (fun x_288 e_288 => ?_)
                    obtain rfl : x_288 = nI (S.2 0 2) := e_288.trans (hT.g3)
                    refine lv_iconst (v := 1) hx hb dL_isSpend_289 (by decide) ?_
                    refine lv_iadd hx hb dL_isSpend_290 ?_
                    refine lv_topi (fun x_290 e_290 => ?_)
                    obtain rfl : x_290 = nI ((S.2 0 2) + 1) := e_290.trans (nI_add (S.2 0 2) 1)
                    refine k_ist (ad := ad) (k := 17) (i := 10) Z X ct_17_10 (vp_in_nI (n := 3) (by first | assumption | omega) (by decide)) dL_isSpend_291 (fun H locs X => ?_)
                    have X : kX E G s H locs ad (cto G S (sI (sI (sI (sI T 7 (S.2 0 2) (nI (aq + (64 * vq)))) 8 (S.2 0 2) (nI (amq x1))) 6 (S.2 2 aq) ((S.1 3 (S.2 2 aq)) - (nI (amq x1)))) 11 3 (nI ((S.2 0 2) + 1))) o ad) := X.eq (st_17 (a := 10) (by decide) 3 _ (by omega))
                    refine lv_aload_n hx hb dL_isSpend_292 rfl (lv_at hl 7 rfl) ?_
                    refine lv_bipush (v := 7) hx hb dL_isSpend_293 (by decide) ?_
                    refine lv_iload hx hb dL_isSpend_295 (lv_at hl 6 rfl) ?_
                    refine lv_iload hx hb dL_isSpend_297 (lv_at hl 5 rfl) ?_
                    refine lv_iload hx hb dL_isSpend_299 (lv_at hl 2 rfl) ?_
                    refine lv_iconst (v := 0) hx hb dL_isSpend_301 (by decide) ?_
                    refine k_xRi X (k_xrunSW (As := [.ref (ad 0 0), .int 7, .int (nI uq), .int (nI aq), .int (nI (amq x1)), .int 0]) (rest := []) Z X (c_L_does_7 l E G S (sI (sI (sI (sI T 7 (S.2 0 2) (nI (aq + (64 * vq)))) 8 (S.2 0 2) (nI (amq x1))) 6 (S.2 2 aq) ((S.1 3 (S.2 2 aq)) - (nI (amq x1)))) 11 3 (nI ((S.2 0 2) + 1))) o ad (nI uq) (nI aq) (nI (amq x1)) 0 hE hS hL hK9) (k_cwSW 6 Z.1.2.2.2.2 (inU_6 _ (List.mem_of_getElem? (i := 3) rfl)) (inU_6 _ (List.mem_of_getElem? (i := 4) rfl)) (inU_6 _ (List.mem_of_getElem? (i := 5) rfl)) (inU_6 _ (List.mem_of_getElem? (i := 6) rfl)) rfl rfl (by decide +kernel) ⟨(Nat.le_of_ble_eq_true rfl), (Nat.le_of_ble_eq_true rfl)⟩) rfl hl.1 rfl (Nat.le_of_ble_eq_true rfl) dL_isSpend_302 ⟨(Nat.le_of_ble_eq_true rfl), (Nat.le_of_ble_eq_true rfl)⟩) (fun _ _ _ _ _ _ _ hp => hp.elim) (fun r_302 ad1 ct1 H locs hp X => ?_)
                    have hC : cSpend S (kdS S) (nI uq) (nI aq) (nI (amq x1)) = 0 := by rw [cSpend_v (by omega) (by omega) (by omega) (by omega), har, hrg, c_237]; rfl
                    obtain ⟨hAK, hq⟩ := hp
                    rcases hq with ⟨z, hr_, S1, hS1, hb_⟩ | ⟨z, -⟩ | ⟨z, -⟩ | ⟨z, -⟩
                    case inr.inl => exact absurd (hC.symm.trans z) (by decide)
                    case inr.inr.inl => exact absurd (hC.symm.trans z) (by decide)
                    case inr.inr.inr => exact absurd (hC.symm.trans z) (by decide)
                    subst hr_
                    obtain ⟨cap, hcap, rfl⟩ := hS1
                    rw [hb_] at X
                    rw [← hAK.2.2 10] at hl
                    refine lv_iload hx hb dL_isSpend_305 (lv_at hl 3 rfl) ?_
                    refine lv_if_ne (tgt := 315) hx hb dL_isSpend_307 (by decide) (fun c_307 => ?_) (fun c_307 => ?_)
                    · refine lv_iload hx hb dL_isSpend_315 (lv_at hl 1 rfl) ?_
                      refine lv_if_ne (tgt := 325) hx hb dL_isSpend_317 (by decide) (fun c_317 => ?_) (fun c_317 => ?_)
                      · refine lv_iload hx hb dL_isSpend_325 (lv_at hl 0 rfl) ?_
                        refine lv_if_eq (tgt := 339) hx hb dL_isSpend_327 (by decide) (fun c_327 => ?_) (fun c_327 => ?_)
                        · exact absurd c_327 (by decide)
                        · refine lv_aload hx hb dL_isSpend_330 (lv_at hl 17 rfl) ?_
                          refine lv_iconst (v := 3) hx hb dL_isSpend_332 (by decide) ?_
                          refine k_ild (ad := ad1) (k := 17) (i := 10) Z X ct_17_10 (vp_in_nI (n := 3) (by first | assumption | omega) (by decide)) dL_isSpend_333 ?_
                          refine lv_topi (fun x_333 e_333 => ?_)
                          obtain rfl : x_333 = nI ((S.2 0 2) + 1) := e_333.trans (by first | (simp only [nI_clamp (show 3 < 2 ^ 31 by omega)]; done) | rfl | (simp only [nI_clamp (show 3 < 2 ^ 31 by omega)]; rfl) | (simp only [nI_clamp (show 3 < 2 ^ 31 by omega)]; simp [sI, sN]; done))
                          refine lv_iconst (v := 1) hx hb dL_isSpend_334 (by decide) ?_
                          refine lv_isub hx hb dL_isSpend_335 ?_
                          refine lv_topi (fun x_335 e_335 => ?_)
                          obtain rfl : x_335 = nI (S.2 0 2) := e_335.trans (nI_pred _)
                          refine lv_goto (tgt := 341) hx hb dL_isSpend_336 (by decide) ?_
                          refine lv_icmp_ne (tgt := 348) hx hb dL_isSpend_341 (by decide) (fun c_341 => ?_) (fun c_341 => ?_)
                          · exact absurd rfl c_341
                          · refine lv_iconst (v := 1) hx hb dL_isSpend_344 (by decide) ?_
                            refine lv_goto (tgt := 349) hx hb dL_isSpend_345 (by decide) ?_
                            exact vx_ret (k_iret Z X hr hlocks rfl (by omega) (by omega) dL_isSpend_349 ⟨⟨rfl, hAK⟩, _, _, rfl, Mid.spend hI hn9 ha1 (by omega) hx1m hvq2 (by omega) hbg hC hcap⟩)
                      · exact absurd c_317 (by decide)
                    · exact absurd c_307 (by decide)
                refine lv_iload hx hb dL_isSpend_184 (lv_at hl 2 rfl) ?_
                refine lv_if_eq (tgt := 232) hx hb dL_isSpend_186 (by decide) (fun c_186 => ?_) (fun c_186 => ?_)
                · have c_186 : (caM S uq aq) = false := bI_0 c_186
                  refine lv_iconst (v := 0) hx hb dL_isSpend_232 (by decide) ?_
                  exact W.eq (congrArg (fun z => F0 m 233 ls (.int z :: [])) (bI_f (by rw [caS, c_186]; rfl))) (M_233 _ _ X)
                · have c_186 : (caM S uq aq) = true := bI_1 c_186
                  have hcm := c_186
                  simp only [caM, arM, Bool.and_eq_true, decide_eq_true_eq, Bool.not_eq_true'] at hcm
                  obtain ⟨⟨hu1, ha1⟩, hg1, h81⟩ := hcm
                  have hmm := hT.mm hN (j := aq) ha1
                  have hmm1 := hmm.1
                  have hau := hN.2.2.2.2.1 aq ha1
                  refine lv_iload hx hb dL_isSpend_189 (lv_at hl 0 rfl) ?_
                  refine lv_if_eq (tgt := 232) hx hb dL_isSpend_191 (by decide) (fun c_191 => ?_) (fun c_191 => ?_)
                  · have c_191 : (decide (0 < (amq x1)) && decide ((amq x1) < 1000001)) = false := bI_0 c_191
                    refine lv_iconst (v := 0) hx hb dL_isSpend_232 (by decide) ?_
                    exact W.eq (congrArg (fun z => F0 m 233 ls (.int z :: [])) (bI_f (by rw [caS, c_191, Bool.false_and, Bool.and_false]))) (M_233 _ _ X)
                  · have c_191 : (decide (0 < (amq x1)) && decide ((amq x1) < 1000001)) = true := bI_1 c_191
                    refine lv_aload_n hx hb dL_isSpend_194 rfl (lv_at hl 8 rfl) ?_
                    refine lv_aload_n hx hb dL_isSpend_195 rfl (lv_at hl 9 rfl) ?_
                    refine lv_aload hx hb dL_isSpend_196 (lv_at hl 11 rfl) ?_
                    refine lv_aload hx hb dL_isSpend_198 (lv_at hl 17 rfl) ?_
                    refine lv_iload hx hb dL_isSpend_200 (lv_at hl 5 rfl) ?_
                    refine lv_iload hx hb dL_isSpend_202 (lv_at hl 1 rfl) ?_
                    refine k_Ri X (k_runS (As := [.ref (ad 17 0), .ref (ad 17 1), .ref (ad 17 4), .ref (ad 17 10), .int (nI aq), .int (nI (amq x1))]) (rest := []) Z X (c_L_isApproved l E G S T o ad S hT hN aq (nI (amq x1)) ha1) (k_cwS 6 Z.1.2.2.2.2 (inU_27 _ (List.mem_of_getElem? (i := 21) rfl)) (inU_27 _ (List.mem_of_getElem? (i := 22) rfl)) (inU_6 _ (List.mem_of_getElem? (i := 5) rfl)) (inU_27 _ (List.mem_of_getElem? (i := 23) rfl)) rfl rfl (by decide +kernel) ⟨Nat.le_of_ble_eq_true rfl, Nat.le_of_ble_eq_true rfl⟩) rfl hl.1 rfl (Nat.le_of_ble_eq_true rfl) dL_isSpend_204 ⟨(by first | exact Nat.le_of_ble_eq_true rfl | (show _ ≤ (_ : Nat); simp only [headSpec]; omega)), (by first | exact Nat.le_of_ble_eq_true rfl | (show _ ≤ (_ : Nat); simp only [headSpec]; omega))⟩) (fun r_204 ad1 ct1 H locs hp X => ?_)
                    obtain ⟨rfl, ha_, hb_⟩ := hp
                    rw [← ha_, hb_] at X
                    refine lv_if_eq (tgt := 232) hx hb dL_isSpend_207 (by decide) (fun c_207 => ?_) (fun c_207 => ?_)
                    · have c_207 : (appr S (kdS S aq) (S.2 1 aq) (S.2 0 0) (nI (amq x1))) = false := bI_0 c_207
                      refine lv_iconst (v := 0) hx hb dL_isSpend_232 (by decide) ?_
                      exact W.eq (congrArg (fun z => F0 m 233 ls (.int z :: [])) (bI_f (by rw [caS, c_207, Bool.false_and, Bool.and_false, Bool.and_false]))) (M_233 _ _ X)
                    · have c_207 : (appr S (kdS S aq) (S.2 1 aq) (S.2 0 0) (nI (amq x1))) = true := bI_1 c_207
                      refine lv_aload hx hb dL_isSpend_210 (lv_at hl 12 rfl) ?_
                      refine lv_aload_n hx hb dL_isSpend_212 rfl (lv_at hl 9 rfl) ?_
                      refine lv_iload hx hb dL_isSpend_213 (lv_at hl 5 rfl) ?_
                      refine k_ild (ad := ad) (k := 17) (i := 1) Z X ct_17_1 (vp_in_nI (n := aq) (by first | assumption | omega) (by decide)) dL_isSpend_215 ?_
                      refine lv_topi (fun x_215 e_215 => ?_)
                      obtain rfl : x_215 = T.1 2 aq := e_215.trans (by first | (simp only [nI_clamp (show aq < 2 ^ 31 by omega)]; done) | rfl | (simp only [nI_clamp (show aq < 2 ^ 31 by omega)]; rfl) | (simp only [nI_clamp (show aq < 2 ^ 31 by omega)]; simp [sI, sN]; done))
                      refine lv_topi (fun x_215 e_215 => ?_)
                      obtain rfl : x_215 = nI (encm S aq) := e_215.trans (hT.m (by omega))
                      refine lv_bipush (v := 16) hx hb dL_isSpend_216 (by decide) ?_
                      refine lv_idiv hx hb dL_isSpend_218 (by decide) ?_
                      refine lv_topi (fun x_218 e_218 => ?_)
                      obtain rfl : x_218 = nI ((encm S aq) / 16) := e_218.trans ((pk_div (a := (encm S aq)) (d := 16) (by have := (hT.mm hN (j := aq) (by omega)).1; omega) (by omega) (by omega)))
                      refine lv_bipush (v := 8) hx hb dL_isSpend_219 (by decide) ?_
                      refine lv_irem hx hb dL_isSpend_221 (by decide) ?_
                      refine lv_topi (fun x_221 e_221 => ?_)
                      obtain rfl : x_221 = nI (S.2 2 aq) := e_221.trans ((pk_rem (a := ((encm S aq) / 16)) (d := 8) (by have := (hT.mm hN (j := aq) (by omega)).1; omega) (by omega) (by omega)).trans (congrArg nI (hT.mm hN (j := aq) (by omega)).2.2.1))
                      refine k_ild (ad := ad) (k := 17) (i := 5) Z X ct_17_5 (vp_in_nI (n := (S.2 2 aq)) (by first | assumption | omega) (by decide)) dL_isSpend_222 ?_
                      refine lv_topi (fun x_222 e_222 => ?_)
                      obtain rfl : x_222 = T.1 6 (S.2 2 aq) := e_222.trans (by first | (simp only [nI_clamp (show S.2 2 aq < 2 ^ 31 by omega)]; done) | rfl | (simp only [nI_clamp (show S.2 2 aq < 2 ^ 31 by omega)]; rfl) | (simp only [nI_clamp (show S.2 2 aq < 2 ^ 31 by omega)]; simp [sI, sN]; done))
                      refine lv_topi (fun x_222 e_222 => ?_)
                      obtain rfl : x_222 = S.1 3 (S.2 2 aq) := e_222.trans (hT.b (by omega))
                      refine lv_iload hx hb dL_isSpend_223 (lv_at hl 1 rfl) ?_
                      refine lv_icmp_lt (tgt := 232) hx hb dL_isSpend_225 (by decide) (fun c_225 => ?_) (fun c_225 => ?_)
                      · refine lv_iconst (v := 0) hx hb dL_isSpend_232 (by decide) ?_
                        exact W.eq (congrArg (fun z => F0 m 233 ls (.int z :: [])) (bI_f (by rw [caS, decide_eq_false (p := ¬ S.1 3 (S.2 2 aq) < nI (amq x1)) (fun z => z c_225), Bool.and_false, Bool.and_false, Bool.and_false]))) (M_233 _ _ X)
                      · refine lv_iconst (v := 1) hx hb dL_isSpend_228 (by decide) ?_
                        refine lv_goto (tgt := 233) hx hb dL_isSpend_229 (by decide) ?_
                        exact W.eq (congrArg (fun z => F0 m 233 ls (.int z :: [])) (bI_t (by rw [caS, c_186, c_191, c_207, decide_eq_true c_225]; rfl))) (M_233 _ _ X)
              refine lv_iload hx hb dL_isSpend_165 (lv_at hl 0 rfl) ?_
              refine lv_if_le (tgt := 181) hx hb dL_isSpend_167 (by decide) (fun c_167 => ?_) (fun c_167 => ?_)
              · have c_167 : amq x1 ≤ 0 := (nI_leI (a := amq x1) (b := 0) (by omega) (by omega)).mp c_167
                refine lv_iconst (v := 0) hx hb dL_isSpend_181 (by decide) ?_
                exact W.eq (congrArg (fun z => F0 m 182 ls (.int z :: [])) (bI_f (by rw [decide_eq_false (p := 0 < (amq x1)) (by omega)]; rfl))) (M_182 _ _ X)
              · have c_167 : ¬ amq x1 ≤ 0 := fun h => c_167 ((nI_leI (a := amq x1) (b := 0) (by omega) (by omega)).mpr h)
                refine lv_iload hx hb dL_isSpend_170 (lv_at hl 0 rfl) ?_
                refine lv_ldc (v := 1000001) hx hb Z.1.2.2.2.1 (Z.1.2.2.2.2 _ (inU_1 _ (List.mem_of_getElem? (i := 7) rfl))) dL_isSpend_172 ?_
                refine lv_icmp_ge (tgt := 181) hx hb dL_isSpend_174 (by decide) (fun c_174 => ?_) (fun c_174 => ?_)
                · have c_174 : 1000001 ≤ amq x1 := (nI_leI (a := 1000001) (b := amq x1) (by omega) (by omega)).mp c_174
                  refine lv_iconst (v := 0) hx hb dL_isSpend_181 (by decide) ?_
                  exact W.eq (congrArg (fun z => F0 m 182 ls (.int z :: [])) (bI_f (by rw [decide_eq_false (p := (amq x1) < 1000001) (by omega), Bool.and_false]))) (M_182 _ _ X)
                · have c_174 : ¬ 1000001 ≤ amq x1 := fun h => c_174 ((nI_leI (a := 1000001) (b := amq x1) (by omega) (by omega)).mpr h)
                  refine lv_iconst (v := 1) hx hb dL_isSpend_177 (by decide) ?_
                  refine lv_goto (tgt := 182) hx hb dL_isSpend_178 (by decide) ?_
                  exact W.eq (congrArg (fun z => F0 m 182 ls (.int z :: [])) (bI_t (by rw [decide_eq_true (show 0 < (amq x1) by omega), decide_eq_true (show (amq x1) < 1000001 by omega)]; rfl))) (M_182 _ _ X)
            refine lv_iload hx hb dL_isSpend_106 (lv_at hl 17 rfl) ?_
            refine lv_bipush (v := 13) hx hb dL_isSpend_108 (by decide) ?_
            refine lv_idiv hx hb dL_isSpend_110 (by decide) ?_
            refine lv_topi (fun x_110 e_110 => ?_)
            obtain rfl : x_110 = nI (x1 / 13) := e_110.trans ((pk_div (a := x1) (d := 13) (by omega) (by omega) (by omega)))
            refine lv_iconst (v := 4) hx hb dL_isSpend_111 (by decide) ?_
            refine lv_irem hx hb dL_isSpend_112 (by decide) ?_
            refine lv_topi (fun x_112 e_112 => ?_)
            obtain rfl : x_112 = nI ((x1 / 13) % 4) := e_112.trans ((pk_rem (a := (x1 / 13)) (d := 4) (by omega) (by omega) (by omega)))
            refine lv_if_ne (tgt := 127) hx hb dL_isSpend_113 (by decide) (fun c_113 => ?_) (fun c_113 => ?_)
            · have c_113 : ¬ (x1 / 13) % 4 = 0 := fun h => c_113 ((nI_eq (a := (x1 / 13) % 4) (b := 0) (by omega) (by omega)).mpr h)
              refine lv_iload hx hb dL_isSpend_127 (lv_at hl 17 rfl) ?_
              refine lv_bipush (v := 13) hx hb dL_isSpend_129 (by decide) ?_
              refine lv_idiv hx hb dL_isSpend_131 (by decide) ?_
              refine lv_topi (fun x_131 e_131 => ?_)
              obtain rfl : x_131 = nI (x1 / 13) := e_131.trans ((pk_div (a := x1) (d := 13) (by omega) (by omega) (by omega)))
              refine lv_iconst (v := 4) hx hb dL_isSpend_132 (by decide) ?_
              refine lv_irem hx hb dL_isSpend_133 (by decide) ?_
              refine lv_topi (fun x_133 e_133 => ?_)
              obtain rfl : x_133 = nI ((x1 / 13) % 4) := e_133.trans ((pk_rem (a := (x1 / 13)) (d := 4) (by omega) (by omega) (by omega)))
              refine lv_iconst (v := 1) hx hb dL_isSpend_134 (by decide) ?_
              refine lv_icmp_ne (tgt := 152) hx hb dL_isSpend_135 (by decide) (fun c_135 => ?_) (fun c_135 => ?_)
              · have c_135 : ¬ (x1 / 13) % 4 = 1 := fun h => c_135 ((nI_eq (a := (x1 / 13) % 4) (b := 1) (by omega) (by omega)).mpr h)
                refine lv_iconst (v := 1) hx hb dL_isSpend_152 (by decide) ?_
                refine lv_iload hx hb dL_isSpend_153 (lv_at hl 17 rfl) ?_
                refine lv_bipush (v := 52) hx hb dL_isSpend_155 (by decide) ?_
                refine lv_idiv hx hb dL_isSpend_157 (by decide) ?_
                refine lv_topi (fun x_157 e_157 => ?_)
                obtain rfl : x_157 = nI (x1 / 52) := e_157.trans ((pk_div (a := x1) (d := 52) (by omega) (by omega) (by omega)))
                refine lv_sipush (v := 1500) hx hb dL_isSpend_158 (by decide) ?_
                refine lv_irem hx hb dL_isSpend_161 (by decide) ?_
                refine lv_topi (fun x_161 e_161 => ?_)
                obtain rfl : x_161 = nI ((x1 / 52) % 1500) := e_161.trans ((pk_rem (a := (x1 / 52)) (d := 1500) (by omega) (by omega) (by omega)))
                refine lv_iadd hx hb dL_isSpend_162 ?_
                refine lv_topi (fun x_162 e_162 => ?_)
                obtain rfl : x_162 = nI (1 + ((x1 / 52) % 1500)) := e_162.trans (nI_add 1 ((x1 / 52) % 1500))
                exact W.eq (congrArg (fun z => F0 m 163 ls (.int z :: [])) (by rw [amq, if_neg c_113, if_neg c_135])) (M_163 _ _ X)
              · have c_135 : (x1 / 13) % 4 = 1 := (nI_eq (a := (x1 / 13) % 4) (b := 1) (by omega) (by omega)).mp c_135
                refine lv_sipush (v := 999) hx hb dL_isSpend_138 (by decide) ?_
                refine lv_iload hx hb dL_isSpend_141 (lv_at hl 17 rfl) ?_
                refine lv_bipush (v := 52) hx hb dL_isSpend_143 (by decide) ?_
                refine lv_idiv hx hb dL_isSpend_145 (by decide) ?_
                refine lv_topi (fun x_145 e_145 => ?_)
                obtain rfl : x_145 = nI (x1 / 52) := e_145.trans ((pk_div (a := x1) (d := 52) (by omega) (by omega) (by omega)))
                refine lv_iconst (v := 3) hx hb dL_isSpend_146 (by decide) ?_
                refine lv_irem hx hb dL_isSpend_147 (by decide) ?_
                refine lv_topi (fun x_147 e_147 => ?_)
                obtain rfl : x_147 = nI ((x1 / 52) % 3) := e_147.trans ((pk_rem (a := (x1 / 52)) (d := 3) (by omega) (by omega) (by omega)))
                refine lv_iadd hx hb dL_isSpend_148 ?_
                refine lv_topi (fun x_148 e_148 => ?_)
                obtain rfl : x_148 = nI (999 + ((x1 / 52) % 3)) := e_148.trans (nI_add 999 ((x1 / 52) % 3))
                refine lv_goto (tgt := 163) hx hb dL_isSpend_149 (by decide) ?_
                exact W.eq (congrArg (fun z => F0 m 163 ls (.int z :: [])) (by rw [amq, if_neg c_113, if_pos c_135])) (M_163 _ _ X)
            · have c_113 : (x1 / 13) % 4 = 0 := (nI_eq (a := (x1 / 13) % 4) (b := 0) (by omega) (by omega)).mp c_113
              refine lv_iload hx hb dL_isSpend_116 (lv_at hl 17 rfl) ?_
              refine lv_bipush (v := 17) hx hb dL_isSpend_118 (by decide) ?_
              refine lv_imul hx hb dL_isSpend_120 ?_
              refine lv_topi (fun x_120 e_120 => ?_)
              obtain rfl : x_120 = nI (x1 * 17) := e_120.trans (pk_mul x1 17)
              refine lv_ldc (v := 1000003) hx hb Z.1.2.2.2.1 (Z.1.2.2.2.2 _ (inU_27 _ (List.mem_of_getElem? (i := 20) rfl))) dL_isSpend_121 ?_
              refine lv_irem hx hb dL_isSpend_123 (by decide) ?_
              refine lv_topi (fun x_123 e_123 => ?_)
              obtain rfl : x_123 = nI ((x1 * 17) % 1000003) := e_123.trans ((pk_rem (a := (x1 * 17)) (d := 1000003) (by omega) (by omega) (by omega)))
              refine lv_goto (tgt := 163) hx hb dL_isSpend_124 (by decide) ?_
              exact W.eq (congrArg (fun z => F0 m 163 ls (.int z :: [])) (by rw [amq, if_pos c_113])) (M_163 _ _ X)
      refine lv_iload hx hb dL_isSpend_59 (lv_at hl 0 rfl) ?_
      refine lv_if_eq (tgt := 89) hx hb dL_isSpend_61 (by decide) (fun c_61 => ?_) (fun c_61 => ?_)
      · have c_61 : (arM S uq aq) = false := bI_0 c_61
        refine lv_iconst (v := 0) hx hb dL_isSpend_89 (by decide) ?_
        exact W.eq (congrArg (fun z => F0 m 90 ls (.int z :: [])) (bI_f (by simp [caM, c_61]))) (M_90 _ _ X)
      · have c_61 : (arM S uq aq) = true := bI_1 c_61
        have har0 := c_61
        simp only [arM, Bool.and_eq_true, decide_eq_true_eq] at har0
        obtain ⟨hu0, ha0⟩ := har0
        have hmm := hT.mm hN (j := aq) (by omega)
        have hmm1 := hmm.1
        refine lv_aload_n hx hb dL_isSpend_64 rfl (lv_at hl 5 rfl) ?_
        refine lv_aload hx hb dL_isSpend_65 (lv_at hl 14 rfl) ?_
        refine lv_iload hx hb dL_isSpend_67 (lv_at hl 3 rfl) ?_
        refine k_Ri X (k_runS (As := [.ref (ad 17 0), .ref (ad 17 10), .int (nI uq)]) (rest := []) Z X (c_L_isGone l E G S T o ad S hT uq (by omega)) (k_cwS 3 Z.1.2.2.2.2 (inU_27 _ (List.mem_of_getElem? (i := 11) rfl)) (inU_27 _ (List.mem_of_getElem? (i := 12) rfl)) (inU_6 _ (List.mem_of_getElem? (i := 5) rfl)) (inU_27 _ (List.mem_of_getElem? (i := 13) rfl)) rfl rfl (by decide +kernel) ⟨Nat.le_of_ble_eq_true rfl, Nat.le_of_ble_eq_true rfl⟩) rfl hl.1 rfl (Nat.le_of_ble_eq_true rfl) dL_isSpend_69 ⟨(by first | exact Nat.le_of_ble_eq_true rfl | (show _ ≤ (_ : Nat); simp only [headSpec]; omega)), (by first | exact Nat.le_of_ble_eq_true rfl | (show _ ≤ (_ : Nat); simp only [headSpec]; omega))⟩) (fun r_69 ad1 ct1 H locs hp X => ?_)
        obtain ⟨rfl, ha_, hb_⟩ := hp
        rw [← ha_, hb_] at X
        refine lv_if_ne (tgt := 89) hx hb dL_isSpend_72 (by decide) (fun c_72 => ?_) (fun c_72 => ?_)
        · have c_72 : (gone S uq) = true := bI_1 c_72
          refine lv_iconst (v := 0) hx hb dL_isSpend_89 (by decide) ?_
          exact W.eq (congrArg (fun z => F0 m 90 ls (.int z :: [])) (bI_f (by simp [caM, c_61, c_72]))) (M_90 _ _ X)
        · have c_72 : (gone S uq) = false := bI_0 c_72
          refine lv_aload_n hx hb dL_isSpend_75 rfl (lv_at hl 6 rfl) ?_
          refine lv_iload hx hb dL_isSpend_76 (lv_at hl 2 rfl) ?_
          refine k_ild (ad := ad) (k := 17) (i := 1) Z X ct_17_1 (vp_in_nI (n := aq) (by first | assumption | omega) (by decide)) dL_isSpend_78 ?_
          refine lv_topi (fun x_78 e_78 => ?_)
          obtain rfl : x_78 = T.1 2 aq := e_78.trans (by first | (simp only [nI_clamp (show aq < 2 ^ 31 by omega)]; done) | rfl | (simp only [nI_clamp (show aq < 2 ^ 31 by omega)]; rfl) | (simp only [nI_clamp (show aq < 2 ^ 31 by omega)]; simp [sI, sN]; done))
          refine lv_topi (fun x_78 e_78 => ?_)
          obtain rfl : x_78 = nI (encm S aq) := e_78.trans (hT.m (by omega))
          refine lv_sipush (v := 8192) hx hb dL_isSpend_79 (by decide) ?_
          refine lv_icmp_ge (tgt := 89) hx hb dL_isSpend_82 (by decide) (fun c_82 => ?_) (fun c_82 => ?_)
          · have c_82 : 8192 ≤ encm S aq := (nI_leI (a := 8192) (b := encm S aq) (by omega) (by omega)).mp c_82
            have s_82 : ¬ S.1 8 aq = 0 := fun z => absurd (hmm.2.2.2.2.2.mpr z) (by omega)
            refine lv_iconst (v := 0) hx hb dL_isSpend_89 (by decide) ?_
            exact W.eq (congrArg (fun z => F0 m 90 ls (.int z :: [])) (bI_f (by simp [caM, c_61, c_72, s_82]))) (M_90 _ _ X)
          · have c_82 : ¬ 8192 ≤ encm S aq := fun h => c_82 ((nI_leI (a := 8192) (b := encm S aq) (by omega) (by omega)).mpr h)
            have s_82 : S.1 8 aq = 0 := hmm.2.2.2.2.2.mp (by omega)
            refine lv_iconst (v := 1) hx hb dL_isSpend_85 (by decide) ?_
            refine lv_goto (tgt := 90) hx hb dL_isSpend_86 (by decide) ?_
            exact W.eq (congrArg (fun z => F0 m 90 ls (.int z :: [])) (bI_t (by simp [caM, c_61, c_72, s_82]))) (M_90 _ _ X)
    refine lv_iload hx hb dL_isSpend_38 (lv_at hl 0 rfl) ?_
    refine lv_if_eq (tgt := 56) hx hb dL_isSpend_40 (by decide) (fun c_40 => ?_) (fun c_40 => ?_)
    · have c_40 : (decide (uq < S.2 0 0)) = false := bI_0 c_40
      refine lv_iconst (v := 0) hx hb dL_isSpend_56 (by decide) ?_
      exact W.eq (congrArg (fun z => F0 m 57 ls (.int z :: [])) (bI_f (by rw [arM, c_40]; rfl))) (M_57 _ _ X)
    · have c_40 : (decide (uq < S.2 0 0)) = true := bI_1 c_40
      refine lv_iload hx hb dL_isSpend_43 (lv_at hl 1 rfl) ?_
      refine lv_aload hx hb dL_isSpend_45 (lv_at hl 13 rfl) ?_
      refine lv_iconst (v := 2) hx hb dL_isSpend_47 (by decide) ?_
      refine k_ild (ad := ad) (k := 17) (i := 10) Z X ct_17_10 (vp_in_nI (n := 2) (by first | assumption | omega) (by decide)) dL_isSpend_48 ?_
      refine lv_topi (fun x_48 e_48 => ?_)
      obtain rfl : x_48 = T.1 11 2 := e_48.trans (by first | (simp only [nI_clamp (show 2 < 2 ^ 31 by omega)]; done) | rfl | (simp only [nI_clamp (show 2 < 2 ^ 31 by omega)]; rfl) | (simp only [nI_clamp (show 2 < 2 ^ 31 by omega)]; simp [sI, sN]; done))
      refine lv_topi (fun x_48 e_48 => ?_)
      obtain rfl : x_48 = nI (S.2 0 1) := e_48.trans (hT.g2)
      refine lv_icmp_ge (tgt := 56) hx hb dL_isSpend_49 (by decide) (fun c_49 => ?_) (fun c_49 => ?_)
      · have c_49 : S.2 0 1 ≤ aq := (nI_leI (a := S.2 0 1) (b := aq) (by omega) (by omega)).mp c_49
        refine lv_iconst (v := 0) hx hb dL_isSpend_56 (by decide) ?_
        exact W.eq (congrArg (fun z => F0 m 57 ls (.int z :: [])) (bI_f (by rw [arM, decide_eq_false (p := aq < S.2 0 1) (by omega), Bool.and_false]))) (M_57 _ _ X)
      · have c_49 : ¬ S.2 0 1 ≤ aq := fun h => c_49 ((nI_leI (a := S.2 0 1) (b := aq) (by omega) (by omega)).mpr h)
        refine lv_iconst (v := 1) hx hb dL_isSpend_52 (by decide) ?_
        refine lv_goto (tgt := 57) hx hb dL_isSpend_53 (by decide) ?_
        exact W.eq (congrArg (fun z => F0 m 57 ls (.int z :: [])) (bI_t (by rw [arM, c_40, decide_eq_true (by omega)]; rfl))) (M_57 _ _ X)
  refine lv_iload hx hb dL_isSpend_22 (lv_at hl 1 rfl) ?_
  refine lv_aload hx hb dL_isSpend_24 (lv_at hl 12 rfl) ?_
  refine lv_iconst (v := 1) hx hb dL_isSpend_26 (by decide) ?_
  refine k_ild (ad := ad) (k := 17) (i := 10) Z X ct_17_10 (vp_in_nI (n := 1) (by first | assumption | omega) (by decide)) dL_isSpend_27 ?_
  refine lv_topi (fun x_27 e_27 => ?_)
  obtain rfl : x_27 = T.1 11 1 := e_27.trans (by first | (simp only [nI_clamp (show 1 < 2 ^ 31 by omega)]; done) | rfl | (simp only [nI_clamp (show 1 < 2 ^ 31 by omega)]; rfl) | (simp only [nI_clamp (show 1 < 2 ^ 31 by omega)]; simp [sI, sN]; done))
  refine lv_topi (fun x_27 e_27 => ?_)
  obtain rfl : x_27 = nI (S.2 0 0) := e_27.trans (hT.g1)
  refine lv_icmp_ge (tgt := 35) hx hb dL_isSpend_28 (by decide) (fun c_28 => ?_) (fun c_28 => ?_)
  · have c_28 : S.2 0 0 ≤ uq := (nI_leI (a := S.2 0 0) (b := uq) (by omega) (by omega)).mp c_28
    refine lv_iconst (v := 0) hx hb dL_isSpend_35 (by decide) ?_
    exact W.eq (congrArg (fun z => F0 m 36 ls (.int z :: [])) (bI_f (decide_eq_false (by omega)))) (M_36 _ _ X)
  · have c_28 : ¬ S.2 0 0 ≤ uq := fun h => c_28 ((nI_leI (a := S.2 0 0) (b := uq) (by omega) (by omega)).mpr h)
    refine lv_iconst (v := 1) hx hb dL_isSpend_31 (by decide) ?_
    refine lv_goto (tgt := 36) hx hb dL_isSpend_32 (by decide) ?_
    exact W.eq (congrArg (fun z => F0 m 36 ls (.int z :: [])) (bI_t (decide_eq_true (by omega)))) (M_36 _ _ X)
set_option maxHeartbeats 4000000 in
set_option maxRecDepth 100000 in
theorem c_L_isSpend_1 (l : Launch) (E : State) (G : kG) (S T : kSt) (o : Int64) (ad : kAd) {n9 x1 x2 : Nat} (hE : kE l E G) (hn9 : n9 ≤ 90) (hx1 : x1 < 60000) (hx2 : x2 < 60000) (hI : Iv n9 S T) : vx_Met l yL_isSpend (.code yL_isSpend cL_isSpend 22 (some .boolean) :: wsL_law) ({ frames := 18, cells := 20, slots := 400, locals := 500 } : Room) (va_Pc [.ref (ad 0 0), .ref (ad 17 0), .ref (ad 17 1), .ref (ad 17 2), .ref (ad 17 4), .ref (ad 17 5), .ref (ad 17 6), .ref (ad 17 7), .ref (ad 17 8), .ref (ad 17 9), .ref (ad 17 10), .int 1, .int (nI x1), .int (nI x2)] (kPre E G ad (cto G S T o ad))) (kQi E G (fun r ad1 ct1 => (r = 1 ∧ AK ad ad1) ∧ ∃ S1 A1, ct1 = cto G S1 A1 o ad1 ∧ Mid (n9 + 1) S1 A1)) (kXC E G (fun _ _ _ => False)) 20 400 (kB E.heap.size) := by
  refine vx_ofW (cc := cL_isSpend) (maxL := 22) (ret := (some .boolean)) (by decide) rfl ?_
  intro p e s m args below meth c s₁ B hml hout hv
  obtain ⟨rfl, hM, hK, hW0⟩ := hv
  have hlocks := B.notSynchronized
  have hr := B.returns
  have Z : kZ p m c cL_isSpend 22 s _ wsL_law RL E G := ⟨⟨B.exec, B.bytes, hml, findClass_of_methodNamed B.named, fun w h => atoms_spec (ws := .code yL_isSpend cL_isSpend 22 (some .boolean) :: wsL_law) B.pre w (List.mem_cons_of_mem _ h)⟩, hM, hK⟩
  have hx := Z.1.1
  have hb := Z.1.2.1
  have X := kX.of hW0
  have hl := lv_entry ([.ref (ad 0 0), .ref (ad 17 0), .ref (ad 17 1), .ref (ad 17 2), .ref (ad 17 4), .ref (ad 17 5), .ref (ad 17 6), .ref (ad 17 7), .ref (ad 17 8), .ref (ad 17 9), .ref (ad 17 10), .int 1, .int (nI x1), .int (nI x2)]) (n := 22) (Nat.le_of_ble_eq_true rfl)
  rw [lg_entry_eq]
  generalize (lg_sl ([.ref (ad 0 0), .ref (ad 17 0), .ref (ad 17 1), .ref (ad 17 2), .ref (ad 17 4), .ref (ad 17 5), .ref (ad 17 6), .ref (ad 17 7), .ref (ad 17 8), .ref (ad 17 9), .ref (ad 17 10), .int 1, .int (nI x1), .int (nI x2)]) ++ List.replicate (22 - (lg_sl ([.ref (ad 0 0), .ref (ad 17 0), .ref (ad 17 1), .ref (ad 17 2), .ref (ad 17 4), .ref (ad 17 5), .ref (ad 17 6), .ref (ad 17 7), .ref (ad 17 8), .ref (ad 17 9), .ref (ad 17 10), .int 1, .int (nI x1), .int (nI x2)])).length) Slot.unset).toArray = ls at hl ⊢
  have hl : lv_has ls 22 [(0, .ref (ad 0 0)), (1, .ref (ad 17 0)), (2, .ref (ad 17 1)), (3, .ref (ad 17 2)), (4, .ref (ad 17 4)), (5, .ref (ad 17 5)), (6, .ref (ad 17 6)), (7, .ref (ad 17 7)), (8, .ref (ad 17 8)), (9, .ref (ad 17 9)), (10, .ref (ad 17 10)), (11, .int 1), (12, .int (nI x1)), (13, .int (nI x2))] := hl
  have hT := hI.lt
  obtain ⟨hS, hL, hK9, hLg, hRp, hlog9, hB⟩ := hI.1.ok
  have hN := hS
  have hlog : S.2 0 4 < 512 := by omega
  obtain ⟨hc0, hc1, hc2, hc3⟩ := hT.c
  obtain ⟨uq, euq⟩ : ∃ y, y = x1 % (S.2 0 0 + 1) := ⟨_, rfl⟩
  have huq : uq ≤ S.2 0 0 := by rw [euq]; exact Nat.le_of_lt_succ (Nat.mod_lt _ (by omega))
  obtain ⟨aq, eaq⟩ : ∃ y, y = x2 % (S.2 0 1 + 1) := ⟨_, rfl⟩
  have haq : aq ≤ S.2 0 1 := by rw [eaq]; exact Nat.le_of_lt_succ (Nat.mod_lt _ (by omega))
  have hvq := hB.2.1
  have hh0 : ∃ h, h ≤ 512000 ∧ S.1 0 0 = nI h := by obtain ⟨⟨hz, h1z, h2z⟩, -⟩ := hB; exact ⟨hz, by omega, h2z⟩
  have hvr : ∀ j, ∃ v, v ≤ 512 ∧ S.1 7 j = nI v := fun j => by obtain ⟨vz, v1z, v2z⟩ := hvq j; exact ⟨vz, by omega, v2z⟩
  have ham := amq_lt x1
  refine lv_iload hx hb dL_isSpend_0 (lv_at hl 12 rfl) ?_
  refine lv_aload hx hb dL_isSpend_2 (lv_at hl 10 rfl) ?_
  refine lv_iconst (v := 1) hx hb dL_isSpend_4 (by decide) ?_
  refine k_ild (ad := ad) (k := 17) (i := 10) Z X ct_17_10 (vp_in_nI (n := 1) (by first | assumption | omega) (by decide)) dL_isSpend_5 ?_
  refine lv_topi (fun x_5 e_5 => ?_)
  obtain rfl : x_5 = T.1 11 1 := e_5.trans (by first | (simp only [nI_clamp (show 1 < 2 ^ 31 by omega)]; done) | rfl | (simp only [nI_clamp (show 1 < 2 ^ 31 by omega)]; rfl) | (simp only [nI_clamp (show 1 < 2 ^ 31 by omega)]; simp [sI, sN]; done))
  refine lv_topi (fun x_5 e_5 => ?_)
  obtain rfl : x_5 = nI (S.2 0 0) := e_5.trans (hT.g1)
  refine lv_iconst (v := 1) hx hb dL_isSpend_6 (by decide) ?_
  refine lv_iadd hx hb dL_isSpend_7 ?_
  refine lv_topi (fun x_7 e_7 => ?_)
  obtain rfl : x_7 = nI ((S.2 0 0) + 1) := e_7.trans (nI_add (S.2 0 0) 1)
  refine lv_irem hx hb dL_isSpend_8 (nI_ne0 (by omega) (by omega)) ?_
  refine lv_topi (fun x_8 e_8 => ?_)
  obtain rfl : x_8 = nI uq := e_8.trans ((pk_rem (a := x1) (d := ((S.2 0 0) + 1)) (by omega) (by omega) (by omega)).trans (congrArg nI euq.symm))
  refine lv_istore (lv' := [(14, .int (nI uq)), (0, .ref (ad 0 0)), (1, .ref (ad 17 0)), (2, .ref (ad 17 1)), (3, .ref (ad 17 2)), (4, .ref (ad 17 4)), (5, .ref (ad 17 5)), (6, .ref (ad 17 6)), (7, .ref (ad 17 7)), (8, .ref (ad 17 8)), (9, .ref (ad 17 9)), (10, .ref (ad 17 10)), (11, .int 1), (12, .int (nI x1)), (13, .int (nI x2))]) hx hb dL_isSpend_9 hl (by decide) rfl (fun ls hl => ?_)
  refine lv_iload hx hb dL_isSpend_11 (lv_at hl 14 rfl) ?_
  refine lv_aload hx hb dL_isSpend_13 (lv_at hl 11 rfl) ?_
  refine lv_iconst (v := 2) hx hb dL_isSpend_15 (by decide) ?_
  refine k_ild (ad := ad) (k := 17) (i := 10) Z X ct_17_10 (vp_in_nI (n := 2) (by first | assumption | omega) (by decide)) dL_isSpend_16 ?_
  refine lv_topi (fun x_16 e_16 => ?_)
  obtain rfl : x_16 = T.1 11 2 := e_16.trans (by first | (simp only [nI_clamp (show 2 < 2 ^ 31 by omega)]; done) | rfl | (simp only [nI_clamp (show 2 < 2 ^ 31 by omega)]; rfl) | (simp only [nI_clamp (show 2 < 2 ^ 31 by omega)]; simp [sI, sN]; done))
  refine lv_topi (fun x_16 e_16 => ?_)
  obtain rfl : x_16 = nI (S.2 0 1) := e_16.trans (hT.g2)
  refine lv_iconst (v := 1) hx hb dL_isSpend_17 (by decide) ?_
  refine lv_iadd hx hb dL_isSpend_18 ?_
  refine lv_topi (fun x_18 e_18 => ?_)
  obtain rfl : x_18 = nI ((S.2 0 1) + 1) := e_18.trans (nI_add (S.2 0 1) 1)
  refine lv_irem hx hb dL_isSpend_19 (nI_ne0 (by omega) (by omega)) ?_
  refine lv_topi (fun x_19 e_19 => ?_)
  obtain rfl : x_19 = nI aq := e_19.trans ((pk_rem (a := x2) (d := ((S.2 0 1) + 1)) (by omega) (by omega) (by omega)).trans (congrArg nI eaq.symm))
  refine lv_istore (lv' := [(15, .int (nI aq)), (14, .int (nI uq)), (0, .ref (ad 0 0)), (1, .ref (ad 17 0)), (2, .ref (ad 17 1)), (3, .ref (ad 17 2)), (4, .ref (ad 17 4)), (5, .ref (ad 17 5)), (6, .ref (ad 17 6)), (7, .ref (ad 17 7)), (8, .ref (ad 17 8)), (9, .ref (ad 17 9)), (10, .ref (ad 17 10)), (11, .int 1), (12, .int (nI x1)), (13, .int (nI x2))]) hx hb dL_isSpend_20 hl (by decide) rfl (fun ls hl => ?_)
  have M_36 : ∀ (H : Heap) (locs : List Loc), kX E G s H locs ad (cto G S T o ad) → W p l e (headSpec (Cond.code yL_isSpend cL_isSpend 22 (some .boolean) :: wsL_law) ({ frames := 18, cells := 20, slots := 400, locals := 500 } : Room)).room s m ([.ref (ad 0 0), .ref (ad 17 0), .ref (ad 17 1), .ref (ad 17 2), .ref (ad 17 4), .ref (ad 17 5), .ref (ad 17 6), .ref (ad 17 7), .ref (ad 17 8), .ref (ad 17 9), .ref (ad 17 10), .int 1, .int (nI x1), .int (nI x2)] : List Value).toArray below meth c H locs 0 0 (vx_MQ below (kQi E G (fun r ad1 ct1 => (r = 1 ∧ AK ad ad1) ∧ ∃ S1 A1, ct1 = cto G S1 A1 o ad1 ∧ Mid (n9 + 1) S1 A1)) (kXC E G (fun _ _ _ => False)) ([.ref (ad 0 0), .ref (ad 17 0), .ref (ad 17 1), .ref (ad 17 2), .ref (ad 17 4), .ref (ad 17 5), .ref (ad 17 6), .ref (ad 17 7), .ref (ad 17 8), .ref (ad 17 9), .ref (ad 17 10), .int 1, .int (nI x1), .int (nI x2)] : List Value).toArray s 20 400 (kB E.heap.size)) (F0 m 36 ls [.int (bI (decide (uq < S.2 0 0)))]) := by
    intro H locs X
    refine lv_istore (lv' := [(16, .int (bI (decide (uq < S.2 0 0)))), (15, .int (nI aq)), (14, .int (nI uq)), (0, .ref (ad 0 0)), (1, .ref (ad 17 0)), (2, .ref (ad 17 1)), (3, .ref (ad 17 2)), (4, .ref (ad 17 4)), (5, .ref (ad 17 5)), (6, .ref (ad 17 6)), (7, .ref (ad 17 7)), (8, .ref (ad 17 8)), (9, .ref (ad 17 9)), (10, .ref (ad 17 10)), (11, .int 1), (12, .int (nI x1)), (13, .int (nI x2))]) hx hb dL_isSpend_36 hl (by decide) rfl (fun ls hl => ?_)
    have M_57 : ∀ (H : Heap) (locs : List Loc), kX E G s H locs ad (cto G S T o ad) → W p l e (headSpec (Cond.code yL_isSpend cL_isSpend 22 (some .boolean) :: wsL_law) ({ frames := 18, cells := 20, slots := 400, locals := 500 } : Room)).room s m ([.ref (ad 0 0), .ref (ad 17 0), .ref (ad 17 1), .ref (ad 17 2), .ref (ad 17 4), .ref (ad 17 5), .ref (ad 17 6), .ref (ad 17 7), .ref (ad 17 8), .ref (ad 17 9), .ref (ad 17 10), .int 1, .int (nI x1), .int (nI x2)] : List Value).toArray below meth c H locs 0 0 (vx_MQ below (kQi E G (fun r ad1 ct1 => (r = 1 ∧ AK ad ad1) ∧ ∃ S1 A1, ct1 = cto G S1 A1 o ad1 ∧ Mid (n9 + 1) S1 A1)) (kXC E G (fun _ _ _ => False)) ([.ref (ad 0 0), .ref (ad 17 0), .ref (ad 17 1), .ref (ad 17 2), .ref (ad 17 4), .ref (ad 17 5), .ref (ad 17 6), .ref (ad 17 7), .ref (ad 17 8), .ref (ad 17 9), .ref (ad 17 10), .int 1, .int (nI x1), .int (nI x2)] : List Value).toArray s 20 400 (kB E.heap.size)) (F0 m 57 ls [.int (bI (arM S uq aq))]) := by
      intro H locs X
      refine lv_istore (lv' := [(17, .int (bI (arM S uq aq))), (16, .int (bI (decide (uq < S.2 0 0)))), (15, .int (nI aq)), (14, .int (nI uq)), (0, .ref (ad 0 0)), (1, .ref (ad 17 0)), (2, .ref (ad 17 1)), (3, .ref (ad 17 2)), (4, .ref (ad 17 4)), (5, .ref (ad 17 5)), (6, .ref (ad 17 6)), (7, .ref (ad 17 7)), (8, .ref (ad 17 8)), (9, .ref (ad 17 9)), (10, .ref (ad 17 10)), (11, .int 1), (12, .int (nI x1)), (13, .int (nI x2))]) hx hb dL_isSpend_57 hl (by decide) rfl (fun ls hl => ?_)
      have M_90 : ∀ (H : Heap) (locs : List Loc), kX E G s H locs ad (cto G S T o ad) → W p l e (headSpec (Cond.code yL_isSpend cL_isSpend 22 (some .boolean) :: wsL_law) ({ frames := 18, cells := 20, slots := 400, locals := 500 } : Room)).room s m ([.ref (ad 0 0), .ref (ad 17 0), .ref (ad 17 1), .ref (ad 17 2), .ref (ad 17 4), .ref (ad 17 5), .ref (ad 17 6), .ref (ad 17 7), .ref (ad 17 8), .ref (ad 17 9), .ref (ad 17 10), .int 1, .int (nI x1), .int (nI x2)] : List Value).toArray below meth c H locs 0 0 (vx_MQ below (kQi E G (fun r ad1 ct1 => (r = 1 ∧ AK ad ad1) ∧ ∃ S1 A1, ct1 = cto G S1 A1 o ad1 ∧ Mid (n9 + 1) S1 A1)) (kXC E G (fun _ _ _ => False)) ([.ref (ad 0 0), .ref (ad 17 0), .ref (ad 17 1), .ref (ad 17 2), .ref (ad 17 4), .ref (ad 17 5), .ref (ad 17 6), .ref (ad 17 7), .ref (ad 17 8), .ref (ad 17 9), .ref (ad 17 10), .int 1, .int (nI x1), .int (nI x2)] : List Value).toArray s 20 400 (kB E.heap.size)) (F0 m 90 ls [.int (bI (caM S uq aq))]) := by
        intro H locs X
        refine lv_istore (lv' := [(18, .int (bI (caM S uq aq))), (17, .int (bI (arM S uq aq))), (16, .int (bI (decide (uq < S.2 0 0)))), (15, .int (nI aq)), (14, .int (nI uq)), (0, .ref (ad 0 0)), (1, .ref (ad 17 0)), (2, .ref (ad 17 1)), (3, .ref (ad 17 2)), (4, .ref (ad 17 4)), (5, .ref (ad 17 5)), (6, .ref (ad 17 6)), (7, .ref (ad 17 7)), (8, .ref (ad 17 8)), (9, .ref (ad 17 9)), (10, .ref (ad 17 10)), (11, .int 1), (12, .int (nI x1)), (13, .int (nI x2))]) hx hb dL_isSpend_90 hl (by decide) rfl (fun ls hl => ?_)
        refine lv_iload hx hb dL_isSpend_92 (lv_at hl 16 rfl) ?_
        refine lv_if_ne (tgt := 350) hx hb dL_isSpend_94 (by decide) (fun c_94 => ?_) (fun c_94 => ?_)
        · refine W.widen (k := 0) (n := 0) (by omega) (by omega) ?_
          exact t_isSp_t (w := 1) (by decide) hE hn9 hx1 hx2 hI huq haq Z hr hlocks _ _ _ X (lv_sub hl [5, 6, 7, 8, 9, 10, 11, 12, 13, 14, 15, 16, 17, 18, 4, 3, 2, 1, 0] rfl)
        · exact absurd c_94 (by decide)
      refine lv_iload hx hb dL_isSpend_59 (lv_at hl 0 rfl) ?_
      refine lv_if_eq (tgt := 89) hx hb dL_isSpend_61 (by decide) (fun c_61 => ?_) (fun c_61 => ?_)
      · have c_61 : (arM S uq aq) = false := bI_0 c_61
        refine lv_iconst (v := 0) hx hb dL_isSpend_89 (by decide) ?_
        exact W.eq (congrArg (fun z => F0 m 90 ls (.int z :: [])) (bI_f (by simp [caM, c_61]))) (M_90 _ _ X)
      · have c_61 : (arM S uq aq) = true := bI_1 c_61
        have har0 := c_61
        simp only [arM, Bool.and_eq_true, decide_eq_true_eq] at har0
        obtain ⟨hu0, ha0⟩ := har0
        have hmm := hT.mm hN (j := aq) (by omega)
        have hmm1 := hmm.1
        refine lv_aload_n hx hb dL_isSpend_64 rfl (lv_at hl 5 rfl) ?_
        refine lv_aload hx hb dL_isSpend_65 (lv_at hl 14 rfl) ?_
        refine lv_iload hx hb dL_isSpend_67 (lv_at hl 3 rfl) ?_
        refine k_Ri X (k_runS (As := [.ref (ad 17 0), .ref (ad 17 10), .int (nI uq)]) (rest := []) Z X (c_L_isGone l E G S T o ad S hT uq (by omega)) (k_cwS 3 Z.1.2.2.2.2 (inU_27 _ (List.mem_of_getElem? (i := 11) rfl)) (inU_27 _ (List.mem_of_getElem? (i := 12) rfl)) (inU_6 _ (List.mem_of_getElem? (i := 5) rfl)) (inU_27 _ (List.mem_of_getElem? (i := 13) rfl)) rfl rfl (by decide +kernel) ⟨Nat.le_of_ble_eq_true rfl, Nat.le_of_ble_eq_true rfl⟩) rfl hl.1 rfl (Nat.le_of_ble_eq_true rfl) dL_isSpend_69 ⟨(by first | exact Nat.le_of_ble_eq_true rfl | (show _ ≤ (_ : Nat); simp only [headSpec]; omega)), (by first | exact Nat.le_of_ble_eq_true rfl | (show _ ≤ (_ : Nat); simp only [headSpec]; omega))⟩) (fun r_69 ad1 ct1 H locs hp X => ?_)
        obtain ⟨rfl, ha_, hb_⟩ := hp
        rw [← ha_, hb_] at X
        refine lv_if_ne (tgt := 89) hx hb dL_isSpend_72 (by decide) (fun c_72 => ?_) (fun c_72 => ?_)
        · have c_72 : (gone S uq) = true := bI_1 c_72
          refine lv_iconst (v := 0) hx hb dL_isSpend_89 (by decide) ?_
          exact W.eq (congrArg (fun z => F0 m 90 ls (.int z :: [])) (bI_f (by simp [caM, c_61, c_72]))) (M_90 _ _ X)
        · have c_72 : (gone S uq) = false := bI_0 c_72
          refine lv_aload_n hx hb dL_isSpend_75 rfl (lv_at hl 6 rfl) ?_
          refine lv_iload hx hb dL_isSpend_76 (lv_at hl 2 rfl) ?_
          refine k_ild (ad := ad) (k := 17) (i := 1) Z X ct_17_1 (vp_in_nI (n := aq) (by first | assumption | omega) (by decide)) dL_isSpend_78 ?_
          refine lv_topi (fun x_78 e_78 => ?_)
          obtain rfl : x_78 = T.1 2 aq := e_78.trans (by first | (simp only [nI_clamp (show aq < 2 ^ 31 by omega)]; done) | rfl | (simp only [nI_clamp (show aq < 2 ^ 31 by omega)]; rfl) | (simp only [nI_clamp (show aq < 2 ^ 31 by omega)]; simp [sI, sN]; done))
          refine lv_topi (fun x_78 e_78 => ?_)
          obtain rfl : x_78 = nI (encm S aq) := e_78.trans (hT.m (by omega))
          refine lv_sipush (v := 8192) hx hb dL_isSpend_79 (by decide) ?_
          refine lv_icmp_ge (tgt := 89) hx hb dL_isSpend_82 (by decide) (fun c_82 => ?_) (fun c_82 => ?_)
          · have c_82 : 8192 ≤ encm S aq := (nI_leI (a := 8192) (b := encm S aq) (by omega) (by omega)).mp c_82
            have s_82 : ¬ S.1 8 aq = 0 := fun z => absurd (hmm.2.2.2.2.2.mpr z) (by omega)
            refine lv_iconst (v := 0) hx hb dL_isSpend_89 (by decide) ?_
            exact W.eq (congrArg (fun z => F0 m 90 ls (.int z :: [])) (bI_f (by simp [caM, c_61, c_72, s_82]))) (M_90 _ _ X)
          · have c_82 : ¬ 8192 ≤ encm S aq := fun h => c_82 ((nI_leI (a := 8192) (b := encm S aq) (by omega) (by omega)).mpr h)
            have s_82 : S.1 8 aq = 0 := hmm.2.2.2.2.2.mp (by omega)
            refine lv_iconst (v := 1) hx hb dL_isSpend_85 (by decide) ?_
            refine lv_goto (tgt := 90) hx hb dL_isSpend_86 (by decide) ?_
            exact W.eq (congrArg (fun z => F0 m 90 ls (.int z :: [])) (bI_t (by simp [caM, c_61, c_72, s_82]))) (M_90 _ _ X)
    refine lv_iload hx hb dL_isSpend_38 (lv_at hl 0 rfl) ?_
    refine lv_if_eq (tgt := 56) hx hb dL_isSpend_40 (by decide) (fun c_40 => ?_) (fun c_40 => ?_)
    · have c_40 : (decide (uq < S.2 0 0)) = false := bI_0 c_40
      refine lv_iconst (v := 0) hx hb dL_isSpend_56 (by decide) ?_
      exact W.eq (congrArg (fun z => F0 m 57 ls (.int z :: [])) (bI_f (by rw [arM, c_40]; rfl))) (M_57 _ _ X)
    · have c_40 : (decide (uq < S.2 0 0)) = true := bI_1 c_40
      refine lv_iload hx hb dL_isSpend_43 (lv_at hl 1 rfl) ?_
      refine lv_aload hx hb dL_isSpend_45 (lv_at hl 13 rfl) ?_
      refine lv_iconst (v := 2) hx hb dL_isSpend_47 (by decide) ?_
      refine k_ild (ad := ad) (k := 17) (i := 10) Z X ct_17_10 (vp_in_nI (n := 2) (by first | assumption | omega) (by decide)) dL_isSpend_48 ?_
      refine lv_topi (fun x_48 e_48 => ?_)
      obtain rfl : x_48 = T.1 11 2 := e_48.trans (by first | (simp only [nI_clamp (show 2 < 2 ^ 31 by omega)]; done) | rfl | (simp only [nI_clamp (show 2 < 2 ^ 31 by omega)]; rfl) | (simp only [nI_clamp (show 2 < 2 ^ 31 by omega)]; simp [sI, sN]; done))
      refine lv_topi (fun x_48 e_48 => ?_)
      obtain rfl : x_48 = nI (S.2 0 1) := e_48.trans (hT.g2)
      refine lv_icmp_ge (tgt := 56) hx hb dL_isSpend_49 (by decide) (fun c_49 => ?_) (fun c_49 => ?_)
      · have c_49 : S.2 0 1 ≤ aq := (nI_leI (a := S.2 0 1) (b := aq) (by omega) (by omega)).mp c_49
        refine lv_iconst (v := 0) hx hb dL_isSpend_56 (by decide) ?_
        exact W.eq (congrArg (fun z => F0 m 57 ls (.int z :: [])) (bI_f (by rw [arM, decide_eq_false (p := aq < S.2 0 1) (by omega), Bool.and_false]))) (M_57 _ _ X)
      · have c_49 : ¬ S.2 0 1 ≤ aq := fun h => c_49 ((nI_leI (a := S.2 0 1) (b := aq) (by omega) (by omega)).mpr h)
        refine lv_iconst (v := 1) hx hb dL_isSpend_52 (by decide) ?_
        refine lv_goto (tgt := 57) hx hb dL_isSpend_53 (by decide) ?_
        exact W.eq (congrArg (fun z => F0 m 57 ls (.int z :: [])) (bI_t (by rw [arM, c_40, decide_eq_true (by omega)]; rfl))) (M_57 _ _ X)
  refine lv_iload hx hb dL_isSpend_22 (lv_at hl 1 rfl) ?_
  refine lv_aload hx hb dL_isSpend_24 (lv_at hl 12 rfl) ?_
  refine lv_iconst (v := 1) hx hb dL_isSpend_26 (by decide) ?_
  refine k_ild (ad := ad) (k := 17) (i := 10) Z X ct_17_10 (vp_in_nI (n := 1) (by first | assumption | omega) (by decide)) dL_isSpend_27 ?_
  refine lv_topi (fun x_27 e_27 => ?_)
  obtain rfl : x_27 = T.1 11 1 := e_27.trans (by first | (simp only [nI_clamp (show 1 < 2 ^ 31 by omega)]; done) | rfl | (simp only [nI_clamp (show 1 < 2 ^ 31 by omega)]; rfl) | (simp only [nI_clamp (show 1 < 2 ^ 31 by omega)]; simp [sI, sN]; done))
  refine lv_topi (fun x_27 e_27 => ?_)
  obtain rfl : x_27 = nI (S.2 0 0) := e_27.trans (hT.g1)
  refine lv_icmp_ge (tgt := 35) hx hb dL_isSpend_28 (by decide) (fun c_28 => ?_) (fun c_28 => ?_)
  · have c_28 : S.2 0 0 ≤ uq := (nI_leI (a := S.2 0 0) (b := uq) (by omega) (by omega)).mp c_28
    refine lv_iconst (v := 0) hx hb dL_isSpend_35 (by decide) ?_
    exact W.eq (congrArg (fun z => F0 m 36 ls (.int z :: [])) (bI_f (decide_eq_false (by omega)))) (M_36 _ _ X)
  · have c_28 : ¬ S.2 0 0 ≤ uq := fun h => c_28 ((nI_leI (a := S.2 0 0) (b := uq) (by omega) (by omega)).mpr h)
    refine lv_iconst (v := 1) hx hb dL_isSpend_31 (by decide) ?_
    refine lv_goto (tgt := 36) hx hb dL_isSpend_32 (by decide) ?_
    exact W.eq (congrArg (fun z => F0 m 36 ls (.int z :: [])) (bI_t (decide_eq_true (by omega)))) (M_36 _ _ X)
set_option maxHeartbeats 4000000 in
set_option maxRecDepth 100000 in
theorem c_L_isSpend_2 (l : Launch) (E : State) (G : kG) (S T : kSt) (o : Int64) (ad : kAd) {n9 x1 x2 : Nat} (hE : kE l E G) (hn9 : n9 ≤ 90) (hx1 : x1 < 60000) (hx2 : x2 < 60000) (hI : Iv n9 S T) : vx_Met l yL_isSpend (.code yL_isSpend cL_isSpend 22 (some .boolean) :: wsL_law) ({ frames := 18, cells := 20, slots := 400, locals := 500 } : Room) (va_Pc [.ref (ad 0 0), .ref (ad 17 0), .ref (ad 17 1), .ref (ad 17 2), .ref (ad 17 4), .ref (ad 17 5), .ref (ad 17 6), .ref (ad 17 7), .ref (ad 17 8), .ref (ad 17 9), .ref (ad 17 10), .int 2, .int (nI x1), .int (nI x2)] (kPre E G ad (cto G S T o ad))) (kQi E G (fun r ad1 ct1 => (r = 1 ∧ AK ad ad1) ∧ ∃ S1 A1, ct1 = cto G S1 A1 o ad1 ∧ Mid (n9 + 1) S1 A1)) (kXC E G (fun _ _ _ => False)) 20 400 (kB E.heap.size) := by
  refine vx_ofW (cc := cL_isSpend) (maxL := 22) (ret := (some .boolean)) (by decide) rfl ?_
  intro p e s m args below meth c s₁ B hml hout hv
  obtain ⟨rfl, hM, hK, hW0⟩ := hv
  have hlocks := B.notSynchronized
  have hr := B.returns
  have Z : kZ p m c cL_isSpend 22 s _ wsL_law RL E G := ⟨⟨B.exec, B.bytes, hml, findClass_of_methodNamed B.named, fun w h => atoms_spec (ws := .code yL_isSpend cL_isSpend 22 (some .boolean) :: wsL_law) B.pre w (List.mem_cons_of_mem _ h)⟩, hM, hK⟩
  have hx := Z.1.1
  have hb := Z.1.2.1
  have X := kX.of hW0
  have hl := lv_entry ([.ref (ad 0 0), .ref (ad 17 0), .ref (ad 17 1), .ref (ad 17 2), .ref (ad 17 4), .ref (ad 17 5), .ref (ad 17 6), .ref (ad 17 7), .ref (ad 17 8), .ref (ad 17 9), .ref (ad 17 10), .int 2, .int (nI x1), .int (nI x2)]) (n := 22) (Nat.le_of_ble_eq_true rfl)
  rw [lg_entry_eq]
  generalize (lg_sl ([.ref (ad 0 0), .ref (ad 17 0), .ref (ad 17 1), .ref (ad 17 2), .ref (ad 17 4), .ref (ad 17 5), .ref (ad 17 6), .ref (ad 17 7), .ref (ad 17 8), .ref (ad 17 9), .ref (ad 17 10), .int 2, .int (nI x1), .int (nI x2)]) ++ List.replicate (22 - (lg_sl ([.ref (ad 0 0), .ref (ad 17 0), .ref (ad 17 1), .ref (ad 17 2), .ref (ad 17 4), .ref (ad 17 5), .ref (ad 17 6), .ref (ad 17 7), .ref (ad 17 8), .ref (ad 17 9), .ref (ad 17 10), .int 2, .int (nI x1), .int (nI x2)])).length) Slot.unset).toArray = ls at hl ⊢
  have hl : lv_has ls 22 [(0, .ref (ad 0 0)), (1, .ref (ad 17 0)), (2, .ref (ad 17 1)), (3, .ref (ad 17 2)), (4, .ref (ad 17 4)), (5, .ref (ad 17 5)), (6, .ref (ad 17 6)), (7, .ref (ad 17 7)), (8, .ref (ad 17 8)), (9, .ref (ad 17 9)), (10, .ref (ad 17 10)), (11, .int 2), (12, .int (nI x1)), (13, .int (nI x2))] := hl
  have hT := hI.lt
  obtain ⟨hS, hL, hK9, hLg, hRp, hlog9, hB⟩ := hI.1.ok
  have hN := hS
  have hlog : S.2 0 4 < 512 := by omega
  obtain ⟨hc0, hc1, hc2, hc3⟩ := hT.c
  obtain ⟨uq, euq⟩ : ∃ y, y = x1 % (S.2 0 0 + 1) := ⟨_, rfl⟩
  have huq : uq ≤ S.2 0 0 := by rw [euq]; exact Nat.le_of_lt_succ (Nat.mod_lt _ (by omega))
  obtain ⟨aq, eaq⟩ : ∃ y, y = x2 % (S.2 0 1 + 1) := ⟨_, rfl⟩
  have haq : aq ≤ S.2 0 1 := by rw [eaq]; exact Nat.le_of_lt_succ (Nat.mod_lt _ (by omega))
  have hvq := hB.2.1
  have hh0 : ∃ h, h ≤ 512000 ∧ S.1 0 0 = nI h := by obtain ⟨⟨hz, h1z, h2z⟩, -⟩ := hB; exact ⟨hz, by omega, h2z⟩
  have hvr : ∀ j, ∃ v, v ≤ 512 ∧ S.1 7 j = nI v := fun j => by obtain ⟨vz, v1z, v2z⟩ := hvq j; exact ⟨vz, by omega, v2z⟩
  have ham := amq_lt x1
  refine lv_iload hx hb dL_isSpend_0 (lv_at hl 12 rfl) ?_
  refine lv_aload hx hb dL_isSpend_2 (lv_at hl 10 rfl) ?_
  refine lv_iconst (v := 1) hx hb dL_isSpend_4 (by decide) ?_
  refine k_ild (ad := ad) (k := 17) (i := 10) Z X ct_17_10 (vp_in_nI (n := 1) (by first | assumption | omega) (by decide)) dL_isSpend_5 ?_
  refine lv_topi (fun x_5 e_5 => ?_)
  obtain rfl : x_5 = T.1 11 1 := e_5.trans (by first | (simp only [nI_clamp (show 1 < 2 ^ 31 by omega)]; done) | rfl | (simp only [nI_clamp (show 1 < 2 ^ 31 by omega)]; rfl) | (simp only [nI_clamp (show 1 < 2 ^ 31 by omega)]; simp [sI, sN]; done))
  refine lv_topi (fun x_5 e_5 => ?_)
  obtain rfl : x_5 = nI (S.2 0 0) := e_5.trans (hT.g1)
  refine lv_iconst (v := 1) hx hb dL_isSpend_6 (by decide) ?_
  refine lv_iadd hx hb dL_isSpend_7 ?_
  refine lv_topi (fun x_7 e_7 => ?_)
  obtain rfl : x_7 = nI ((S.2 0 0) + 1) := e_7.trans (nI_add (S.2 0 0) 1)
  refine lv_irem hx hb dL_isSpend_8 (nI_ne0 (by omega) (by omega)) ?_
  refine lv_topi (fun x_8 e_8 => ?_)
  obtain rfl : x_8 = nI uq := e_8.trans ((pk_rem (a := x1) (d := ((S.2 0 0) + 1)) (by omega) (by omega) (by omega)).trans (congrArg nI euq.symm))
  refine lv_istore (lv' := [(14, .int (nI uq)), (0, .ref (ad 0 0)), (1, .ref (ad 17 0)), (2, .ref (ad 17 1)), (3, .ref (ad 17 2)), (4, .ref (ad 17 4)), (5, .ref (ad 17 5)), (6, .ref (ad 17 6)), (7, .ref (ad 17 7)), (8, .ref (ad 17 8)), (9, .ref (ad 17 9)), (10, .ref (ad 17 10)), (11, .int 2), (12, .int (nI x1)), (13, .int (nI x2))]) hx hb dL_isSpend_9 hl (by decide) rfl (fun ls hl => ?_)
  refine lv_iload hx hb dL_isSpend_11 (lv_at hl 14 rfl) ?_
  refine lv_aload hx hb dL_isSpend_13 (lv_at hl 11 rfl) ?_
  refine lv_iconst (v := 2) hx hb dL_isSpend_15 (by decide) ?_
  refine k_ild (ad := ad) (k := 17) (i := 10) Z X ct_17_10 (vp_in_nI (n := 2) (by first | assumption | omega) (by decide)) dL_isSpend_16 ?_
  refine lv_topi (fun x_16 e_16 => ?_)
  obtain rfl : x_16 = T.1 11 2 := e_16.trans (by first | (simp only [nI_clamp (show 2 < 2 ^ 31 by omega)]; done) | rfl | (simp only [nI_clamp (show 2 < 2 ^ 31 by omega)]; rfl) | (simp only [nI_clamp (show 2 < 2 ^ 31 by omega)]; simp [sI, sN]; done))
  refine lv_topi (fun x_16 e_16 => ?_)
  obtain rfl : x_16 = nI (S.2 0 1) := e_16.trans (hT.g2)
  refine lv_iconst (v := 1) hx hb dL_isSpend_17 (by decide) ?_
  refine lv_iadd hx hb dL_isSpend_18 ?_
  refine lv_topi (fun x_18 e_18 => ?_)
  obtain rfl : x_18 = nI ((S.2 0 1) + 1) := e_18.trans (nI_add (S.2 0 1) 1)
  refine lv_irem hx hb dL_isSpend_19 (nI_ne0 (by omega) (by omega)) ?_
  refine lv_topi (fun x_19 e_19 => ?_)
  obtain rfl : x_19 = nI aq := e_19.trans ((pk_rem (a := x2) (d := ((S.2 0 1) + 1)) (by omega) (by omega) (by omega)).trans (congrArg nI eaq.symm))
  refine lv_istore (lv' := [(15, .int (nI aq)), (14, .int (nI uq)), (0, .ref (ad 0 0)), (1, .ref (ad 17 0)), (2, .ref (ad 17 1)), (3, .ref (ad 17 2)), (4, .ref (ad 17 4)), (5, .ref (ad 17 5)), (6, .ref (ad 17 6)), (7, .ref (ad 17 7)), (8, .ref (ad 17 8)), (9, .ref (ad 17 9)), (10, .ref (ad 17 10)), (11, .int 2), (12, .int (nI x1)), (13, .int (nI x2))]) hx hb dL_isSpend_20 hl (by decide) rfl (fun ls hl => ?_)
  have M_36 : ∀ (H : Heap) (locs : List Loc), kX E G s H locs ad (cto G S T o ad) → W p l e (headSpec (Cond.code yL_isSpend cL_isSpend 22 (some .boolean) :: wsL_law) ({ frames := 18, cells := 20, slots := 400, locals := 500 } : Room)).room s m ([.ref (ad 0 0), .ref (ad 17 0), .ref (ad 17 1), .ref (ad 17 2), .ref (ad 17 4), .ref (ad 17 5), .ref (ad 17 6), .ref (ad 17 7), .ref (ad 17 8), .ref (ad 17 9), .ref (ad 17 10), .int 2, .int (nI x1), .int (nI x2)] : List Value).toArray below meth c H locs 0 0 (vx_MQ below (kQi E G (fun r ad1 ct1 => (r = 1 ∧ AK ad ad1) ∧ ∃ S1 A1, ct1 = cto G S1 A1 o ad1 ∧ Mid (n9 + 1) S1 A1)) (kXC E G (fun _ _ _ => False)) ([.ref (ad 0 0), .ref (ad 17 0), .ref (ad 17 1), .ref (ad 17 2), .ref (ad 17 4), .ref (ad 17 5), .ref (ad 17 6), .ref (ad 17 7), .ref (ad 17 8), .ref (ad 17 9), .ref (ad 17 10), .int 2, .int (nI x1), .int (nI x2)] : List Value).toArray s 20 400 (kB E.heap.size)) (F0 m 36 ls [.int (bI (decide (uq < S.2 0 0)))]) := by
    intro H locs X
    refine lv_istore (lv' := [(16, .int (bI (decide (uq < S.2 0 0)))), (15, .int (nI aq)), (14, .int (nI uq)), (0, .ref (ad 0 0)), (1, .ref (ad 17 0)), (2, .ref (ad 17 1)), (3, .ref (ad 17 2)), (4, .ref (ad 17 4)), (5, .ref (ad 17 5)), (6, .ref (ad 17 6)), (7, .ref (ad 17 7)), (8, .ref (ad 17 8)), (9, .ref (ad 17 9)), (10, .ref (ad 17 10)), (11, .int 2), (12, .int (nI x1)), (13, .int (nI x2))]) hx hb dL_isSpend_36 hl (by decide) rfl (fun ls hl => ?_)
    have M_57 : ∀ (H : Heap) (locs : List Loc), kX E G s H locs ad (cto G S T o ad) → W p l e (headSpec (Cond.code yL_isSpend cL_isSpend 22 (some .boolean) :: wsL_law) ({ frames := 18, cells := 20, slots := 400, locals := 500 } : Room)).room s m ([.ref (ad 0 0), .ref (ad 17 0), .ref (ad 17 1), .ref (ad 17 2), .ref (ad 17 4), .ref (ad 17 5), .ref (ad 17 6), .ref (ad 17 7), .ref (ad 17 8), .ref (ad 17 9), .ref (ad 17 10), .int 2, .int (nI x1), .int (nI x2)] : List Value).toArray below meth c H locs 0 0 (vx_MQ below (kQi E G (fun r ad1 ct1 => (r = 1 ∧ AK ad ad1) ∧ ∃ S1 A1, ct1 = cto G S1 A1 o ad1 ∧ Mid (n9 + 1) S1 A1)) (kXC E G (fun _ _ _ => False)) ([.ref (ad 0 0), .ref (ad 17 0), .ref (ad 17 1), .ref (ad 17 2), .ref (ad 17 4), .ref (ad 17 5), .ref (ad 17 6), .ref (ad 17 7), .ref (ad 17 8), .ref (ad 17 9), .ref (ad 17 10), .int 2, .int (nI x1), .int (nI x2)] : List Value).toArray s 20 400 (kB E.heap.size)) (F0 m 57 ls [.int (bI (arM S uq aq))]) := by
      intro H locs X
      refine lv_istore (lv' := [(17, .int (bI (arM S uq aq))), (16, .int (bI (decide (uq < S.2 0 0)))), (15, .int (nI aq)), (14, .int (nI uq)), (0, .ref (ad 0 0)), (1, .ref (ad 17 0)), (2, .ref (ad 17 1)), (3, .ref (ad 17 2)), (4, .ref (ad 17 4)), (5, .ref (ad 17 5)), (6, .ref (ad 17 6)), (7, .ref (ad 17 7)), (8, .ref (ad 17 8)), (9, .ref (ad 17 9)), (10, .ref (ad 17 10)), (11, .int 2), (12, .int (nI x1)), (13, .int (nI x2))]) hx hb dL_isSpend_57 hl (by decide) rfl (fun ls hl => ?_)
      have M_90 : ∀ (H : Heap) (locs : List Loc), kX E G s H locs ad (cto G S T o ad) → W p l e (headSpec (Cond.code yL_isSpend cL_isSpend 22 (some .boolean) :: wsL_law) ({ frames := 18, cells := 20, slots := 400, locals := 500 } : Room)).room s m ([.ref (ad 0 0), .ref (ad 17 0), .ref (ad 17 1), .ref (ad 17 2), .ref (ad 17 4), .ref (ad 17 5), .ref (ad 17 6), .ref (ad 17 7), .ref (ad 17 8), .ref (ad 17 9), .ref (ad 17 10), .int 2, .int (nI x1), .int (nI x2)] : List Value).toArray below meth c H locs 0 0 (vx_MQ below (kQi E G (fun r ad1 ct1 => (r = 1 ∧ AK ad ad1) ∧ ∃ S1 A1, ct1 = cto G S1 A1 o ad1 ∧ Mid (n9 + 1) S1 A1)) (kXC E G (fun _ _ _ => False)) ([.ref (ad 0 0), .ref (ad 17 0), .ref (ad 17 1), .ref (ad 17 2), .ref (ad 17 4), .ref (ad 17 5), .ref (ad 17 6), .ref (ad 17 7), .ref (ad 17 8), .ref (ad 17 9), .ref (ad 17 10), .int 2, .int (nI x1), .int (nI x2)] : List Value).toArray s 20 400 (kB E.heap.size)) (F0 m 90 ls [.int (bI (caM S uq aq))]) := by
        intro H locs X
        refine lv_istore (lv' := [(18, .int (bI (caM S uq aq))), (17, .int (bI (arM S uq aq))), (16, .int (bI (decide (uq < S.2 0 0)))), (15, .int (nI aq)), (14, .int (nI uq)), (0, .ref (ad 0 0)), (1, .ref (ad 17 0)), (2, .ref (ad 17 1)), (3, .ref (ad 17 2)), (4, .ref (ad 17 4)), (5, .ref (ad 17 5)), (6, .ref (ad 17 6)), (7, .ref (ad 17 7)), (8, .ref (ad 17 8)), (9, .ref (ad 17 9)), (10, .ref (ad 17 10)), (11, .int 2), (12, .int (nI x1)), (13, .int (nI x2))]) hx hb dL_isSpend_90 hl (by decide) rfl (fun ls hl => ?_)
        refine lv_iload hx hb dL_isSpend_92 (lv_at hl 16 rfl) ?_
        refine lv_if_ne (tgt := 350) hx hb dL_isSpend_94 (by decide) (fun c_94 => ?_) (fun c_94 => ?_)
        · refine lv_iload hx hb dL_isSpend_350 (lv_at hl 16 rfl) ?_
          refine lv_iconst (v := 2) hx hb dL_isSpend_352 (by decide) ?_
          refine lv_icmp_ge (tgt := 579) hx hb dL_isSpend_353 (by decide) (fun c_353 => ?_) (fun c_353 => ?_)
          · refine W.widen (k := 0) (n := 0) (by omega) (by omega) ?_
            exact t_isSp_d hE hn9 hx1 hx2 hI huq haq Z hr hlocks _ _ _ X (lv_sub hl [5, 6, 7, 8, 9, 10, 11, 12, 13, 14, 15, 16, 17, 18, 4, 3, 2, 1, 0] rfl)
          · exact absurd c_353 (by decide)
        · exact absurd c_94 (by decide)
      refine lv_iload hx hb dL_isSpend_59 (lv_at hl 0 rfl) ?_
      refine lv_if_eq (tgt := 89) hx hb dL_isSpend_61 (by decide) (fun c_61 => ?_) (fun c_61 => ?_)
      · have c_61 : (arM S uq aq) = false := bI_0 c_61
        refine lv_iconst (v := 0) hx hb dL_isSpend_89 (by decide) ?_
        exact W.eq (congrArg (fun z => F0 m 90 ls (.int z :: [])) (bI_f (by simp [caM, c_61]))) (M_90 _ _ X)
      · have c_61 : (arM S uq aq) = true := bI_1 c_61
        have har0 := c_61
        simp only [arM, Bool.and_eq_true, decide_eq_true_eq] at har0
        obtain ⟨hu0, ha0⟩ := har0
        have hmm := hT.mm hN (j := aq) (by omega)
        have hmm1 := hmm.1
        refine lv_aload_n hx hb dL_isSpend_64 rfl (lv_at hl 5 rfl) ?_
        refine lv_aload hx hb dL_isSpend_65 (lv_at hl 14 rfl) ?_
        refine lv_iload hx hb dL_isSpend_67 (lv_at hl 3 rfl) ?_
        refine k_Ri X (k_runS (As := [.ref (ad 17 0), .ref (ad 17 10), .int (nI uq)]) (rest := []) Z X (c_L_isGone l E G S T o ad S hT uq (by omega)) (k_cwS 3 Z.1.2.2.2.2 (inU_27 _ (List.mem_of_getElem? (i := 11) rfl)) (inU_27 _ (List.mem_of_getElem? (i := 12) rfl)) (inU_6 _ (List.mem_of_getElem? (i := 5) rfl)) (inU_27 _ (List.mem_of_getElem? (i := 13) rfl)) rfl rfl (by decide +kernel) ⟨Nat.le_of_ble_eq_true rfl, Nat.le_of_ble_eq_true rfl⟩) rfl hl.1 rfl (Nat.le_of_ble_eq_true rfl) dL_isSpend_69 ⟨(by first | exact Nat.le_of_ble_eq_true rfl | (show _ ≤ (_ : Nat); simp only [headSpec]; omega)), (by first | exact Nat.le_of_ble_eq_true rfl | (show _ ≤ (_ : Nat); simp only [headSpec]; omega))⟩) (fun r_69 ad1 ct1 H locs hp X => ?_)
        obtain ⟨rfl, ha_, hb_⟩ := hp
        rw [← ha_, hb_] at X
        refine lv_if_ne (tgt := 89) hx hb dL_isSpend_72 (by decide) (fun c_72 => ?_) (fun c_72 => ?_)
        · have c_72 : (gone S uq) = true := bI_1 c_72
          refine lv_iconst (v := 0) hx hb dL_isSpend_89 (by decide) ?_
          exact W.eq (congrArg (fun z => F0 m 90 ls (.int z :: [])) (bI_f (by simp [caM, c_61, c_72]))) (M_90 _ _ X)
        · have c_72 : (gone S uq) = false := bI_0 c_72
          refine lv_aload_n hx hb dL_isSpend_75 rfl (lv_at hl 6 rfl) ?_
          refine lv_iload hx hb dL_isSpend_76 (lv_at hl 2 rfl) ?_
          refine k_ild (ad := ad) (k := 17) (i := 1) Z X ct_17_1 (vp_in_nI (n := aq) (by first | assumption | omega) (by decide)) dL_isSpend_78 ?_
          refine lv_topi (fun x_78 e_78 => ?_)
          obtain rfl : x_78 = T.1 2 aq := e_78.trans (by first | (simp only [nI_clamp (show aq < 2 ^ 31 by omega)]; done) | rfl | (simp only [nI_clamp (show aq < 2 ^ 31 by omega)]; rfl) | (simp only [nI_clamp (show aq < 2 ^ 31 by omega)]; simp [sI, sN]; done))
          refine lv_topi (fun x_78 e_78 => ?_)
          obtain rfl : x_78 = nI (encm S aq) := e_78.trans (hT.m (by omega))
          refine lv_sipush (v := 8192) hx hb dL_isSpend_79 (by decide) ?_
          refine lv_icmp_ge (tgt := 89) hx hb dL_isSpend_82 (by decide) (fun c_82 => ?_) (fun c_82 => ?_)
          · have c_82 : 8192 ≤ encm S aq := (nI_leI (a := 8192) (b := encm S aq) (by omega) (by omega)).mp c_82
            have s_82 : ¬ S.1 8 aq = 0 := fun z => absurd (hmm.2.2.2.2.2.mpr z) (by omega)
            refine lv_iconst (v := 0) hx hb dL_isSpend_89 (by decide) ?_
            exact W.eq (congrArg (fun z => F0 m 90 ls (.int z :: [])) (bI_f (by simp [caM, c_61, c_72, s_82]))) (M_90 _ _ X)
          · have c_82 : ¬ 8192 ≤ encm S aq := fun h => c_82 ((nI_leI (a := 8192) (b := encm S aq) (by omega) (by omega)).mpr h)
            have s_82 : S.1 8 aq = 0 := hmm.2.2.2.2.2.mp (by omega)
            refine lv_iconst (v := 1) hx hb dL_isSpend_85 (by decide) ?_
            refine lv_goto (tgt := 90) hx hb dL_isSpend_86 (by decide) ?_
            exact W.eq (congrArg (fun z => F0 m 90 ls (.int z :: [])) (bI_t (by simp [caM, c_61, c_72, s_82]))) (M_90 _ _ X)
    refine lv_iload hx hb dL_isSpend_38 (lv_at hl 0 rfl) ?_
    refine lv_if_eq (tgt := 56) hx hb dL_isSpend_40 (by decide) (fun c_40 => ?_) (fun c_40 => ?_)
    · have c_40 : (decide (uq < S.2 0 0)) = false := bI_0 c_40
      refine lv_iconst (v := 0) hx hb dL_isSpend_56 (by decide) ?_
      exact W.eq (congrArg (fun z => F0 m 57 ls (.int z :: [])) (bI_f (by rw [arM, c_40]; rfl))) (M_57 _ _ X)
    · have c_40 : (decide (uq < S.2 0 0)) = true := bI_1 c_40
      refine lv_iload hx hb dL_isSpend_43 (lv_at hl 1 rfl) ?_
      refine lv_aload hx hb dL_isSpend_45 (lv_at hl 13 rfl) ?_
      refine lv_iconst (v := 2) hx hb dL_isSpend_47 (by decide) ?_
      refine k_ild (ad := ad) (k := 17) (i := 10) Z X ct_17_10 (vp_in_nI (n := 2) (by first | assumption | omega) (by decide)) dL_isSpend_48 ?_
      refine lv_topi (fun x_48 e_48 => ?_)
      obtain rfl : x_48 = T.1 11 2 := e_48.trans (by first | (simp only [nI_clamp (show 2 < 2 ^ 31 by omega)]; done) | rfl | (simp only [nI_clamp (show 2 < 2 ^ 31 by omega)]; rfl) | (simp only [nI_clamp (show 2 < 2 ^ 31 by omega)]; simp [sI, sN]; done))
      refine lv_topi (fun x_48 e_48 => ?_)
      obtain rfl : x_48 = nI (S.2 0 1) := e_48.trans (hT.g2)
      refine lv_icmp_ge (tgt := 56) hx hb dL_isSpend_49 (by decide) (fun c_49 => ?_) (fun c_49 => ?_)
      · have c_49 : S.2 0 1 ≤ aq := (nI_leI (a := S.2 0 1) (b := aq) (by omega) (by omega)).mp c_49
        refine lv_iconst (v := 0) hx hb dL_isSpend_56 (by decide) ?_
        exact W.eq (congrArg (fun z => F0 m 57 ls (.int z :: [])) (bI_f (by rw [arM, decide_eq_false (p := aq < S.2 0 1) (by omega), Bool.and_false]))) (M_57 _ _ X)
      · have c_49 : ¬ S.2 0 1 ≤ aq := fun h => c_49 ((nI_leI (a := S.2 0 1) (b := aq) (by omega) (by omega)).mpr h)
        refine lv_iconst (v := 1) hx hb dL_isSpend_52 (by decide) ?_
        refine lv_goto (tgt := 57) hx hb dL_isSpend_53 (by decide) ?_
        exact W.eq (congrArg (fun z => F0 m 57 ls (.int z :: [])) (bI_t (by rw [arM, c_40, decide_eq_true (by omega)]; rfl))) (M_57 _ _ X)
  refine lv_iload hx hb dL_isSpend_22 (lv_at hl 1 rfl) ?_
  refine lv_aload hx hb dL_isSpend_24 (lv_at hl 12 rfl) ?_
  refine lv_iconst (v := 1) hx hb dL_isSpend_26 (by decide) ?_
  refine k_ild (ad := ad) (k := 17) (i := 10) Z X ct_17_10 (vp_in_nI (n := 1) (by first | assumption | omega) (by decide)) dL_isSpend_27 ?_
  refine lv_topi (fun x_27 e_27 => ?_)
  obtain rfl : x_27 = T.1 11 1 := e_27.trans (by first | (simp only [nI_clamp (show 1 < 2 ^ 31 by omega)]; done) | rfl | (simp only [nI_clamp (show 1 < 2 ^ 31 by omega)]; rfl) | (simp only [nI_clamp (show 1 < 2 ^ 31 by omega)]; simp [sI, sN]; done))
  refine lv_topi (fun x_27 e_27 => ?_)
  obtain rfl : x_27 = nI (S.2 0 0) := e_27.trans (hT.g1)
  refine lv_icmp_ge (tgt := 35) hx hb dL_isSpend_28 (by decide) (fun c_28 => ?_) (fun c_28 => ?_)
  · have c_28 : S.2 0 0 ≤ uq := (nI_leI (a := S.2 0 0) (b := uq) (by omega) (by omega)).mp c_28
    refine lv_iconst (v := 0) hx hb dL_isSpend_35 (by decide) ?_
    exact W.eq (congrArg (fun z => F0 m 36 ls (.int z :: [])) (bI_f (decide_eq_false (by omega)))) (M_36 _ _ X)
  · have c_28 : ¬ S.2 0 0 ≤ uq := fun h => c_28 ((nI_leI (a := S.2 0 0) (b := uq) (by omega) (by omega)).mpr h)
    refine lv_iconst (v := 1) hx hb dL_isSpend_31 (by decide) ?_
    refine lv_goto (tgt := 36) hx hb dL_isSpend_32 (by decide) ?_
    exact W.eq (congrArg (fun z => F0 m 36 ls (.int z :: [])) (bI_t (decide_eq_true (by omega)))) (M_36 _ _ X)
