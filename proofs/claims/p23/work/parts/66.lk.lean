/-! THE LAW'S isMessage: a post, and the method -/
def chq (x : Nat) : Nat := if x % 13 = 0 then 6 else x % 2
theorem chq_lt (x : Nat) : chq x < 7 := by unfold chq; split <;> omega
set_option maxHeartbeats 4000000 in
set_option maxRecDepth 100000 in
theorem c_L_isMessage_0 (l : Launch) (E : State) (G : kG) (S T : kSt) (o : Int64) (ad : kAd) {n9 x1 x2 : Nat} (hE : kE l E G) (hn9 : n9 ≤ 90) (hx1 : x1 < 60000) (hx2 : x2 < 60000) (hI : Iv n9 S T) : vx_Met l yL_isMessage (.code yL_isMessage cL_isMessage 19 (some .boolean) :: wsL_law) ({ frames := 18, cells := 20, slots := 400, locals := 500 } : Room) (va_Pc [.ref (ad 0 0), .ref (ad 17 0), .ref (ad 17 1), .ref (ad 17 2), .ref (ad 17 3), .ref (ad 17 4), .ref (ad 17 8), .ref (ad 17 10), .int 0, .int (nI x1), .int (nI x2)] (kPre E G ad (cto G S T o ad))) (kQi E G (fun r ad1 ct1 => (r = 1 ∧ AK ad ad1) ∧ ∃ S1 A1, ct1 = cto G S1 A1 o ad1 ∧ Mid (n9 + 1) S1 A1)) (kXC E G (fun _ _ _ => False)) 20 400 (kB E.heap.size) := by
  refine vx_ofW (cc := cL_isMessage) (maxL := 19) (ret := (some .boolean)) (by decide) rfl ?_
  intro p e s m args below meth c s₁ B hml hout hv
  obtain ⟨rfl, hM, hK, hW0⟩ := hv
  have hlocks := B.notSynchronized
  have hr := B.returns
  have Z : kZ p m c cL_isMessage 19 s _ wsL_law RL E G := ⟨⟨B.exec, B.bytes, hml, findClass_of_methodNamed B.named, fun w h => atoms_spec (ws := .code yL_isMessage cL_isMessage 19 (some .boolean) :: wsL_law) B.pre w (List.mem_cons_of_mem _ h)⟩, hM, hK⟩
  have hx := Z.1.1
  have hb := Z.1.2.1
  have X := kX.of hW0
  have hl := lv_entry ([.ref (ad 0 0), .ref (ad 17 0), .ref (ad 17 1), .ref (ad 17 2), .ref (ad 17 3), .ref (ad 17 4), .ref (ad 17 8), .ref (ad 17 10), .int 0, .int (nI x1), .int (nI x2)]) (n := 19) (Nat.le_of_ble_eq_true rfl)
  rw [lg_entry_eq]
  generalize (lg_sl ([.ref (ad 0 0), .ref (ad 17 0), .ref (ad 17 1), .ref (ad 17 2), .ref (ad 17 3), .ref (ad 17 4), .ref (ad 17 8), .ref (ad 17 10), .int 0, .int (nI x1), .int (nI x2)]) ++ List.replicate (19 - (lg_sl ([.ref (ad 0 0), .ref (ad 17 0), .ref (ad 17 1), .ref (ad 17 2), .ref (ad 17 3), .ref (ad 17 4), .ref (ad 17 8), .ref (ad 17 10), .int 0, .int (nI x1), .int (nI x2)])).length) Slot.unset).toArray = ls at hl ⊢
  have hl : lv_has ls 19 [(0, .ref (ad 0 0)), (1, .ref (ad 17 0)), (2, .ref (ad 17 1)), (3, .ref (ad 17 2)), (4, .ref (ad 17 3)), (5, .ref (ad 17 4)), (6, .ref (ad 17 8)), (7, .ref (ad 17 10)), (8, .int 0), (9, .int (nI x1)), (10, .int (nI x2))] := hl
  have hT := hI.lt
  obtain ⟨hS, hL, hK9, hLg, hRp, hlog9, hB⟩ := hI.1.ok
  have hN := hS
  have hlog : S.2 0 4 < 512 := by omega
  obtain ⟨hc0, hc1, hc2, hc3⟩ := hT.c
  obtain ⟨uq, euq⟩ : ∃ y, y = x1 % (S.2 0 0 + 1) := ⟨_, rfl⟩
  have huq : uq ≤ S.2 0 0 := by rw [euq]; exact Nat.le_of_lt_succ (Nat.mod_lt _ (by omega))
  refine lv_iload hx hb dL_isMessage_0 (lv_at hl 9 rfl) ?_
  refine lv_aload hx hb dL_isMessage_2 (lv_at hl 7 rfl) ?_
  refine lv_iconst (v := 1) hx hb dL_isMessage_4 (by decide) ?_
  refine k_ild (ad := ad) (k := 17) (i := 10) Z X ct_17_10 (vp_in_nI (n := 1) (by first | assumption | omega) (by decide)) dL_isMessage_5 ?_
  refine lv_topi (fun x_5 e_5 => ?_)
  obtain rfl : x_5 = T.1 11 1 := e_5.trans (by first | (simp only [nI_clamp (show 1 < 2 ^ 31 by omega)]; done) | rfl | (simp only [nI_clamp (show 1 < 2 ^ 31 by omega)]; rfl) | (simp only [nI_clamp (show 1 < 2 ^ 31 by omega)]; simp [sI, sN]; done))
  refine lv_topi (fun x_5 e_5 => ?_)
  obtain rfl : x_5 = nI (S.2 0 0) := e_5.trans (hT.g1)
  refine lv_iconst (v := 1) hx hb dL_isMessage_6 (by decide) ?_
  refine lv_iadd hx hb dL_isMessage_7 ?_
  refine lv_topi (fun x_7 e_7 => ?_)
  obtain rfl : x_7 = nI ((S.2 0 0) + 1) := e_7.trans (nI_add (S.2 0 0) 1)
  refine lv_irem hx hb dL_isMessage_8 (nI_ne0 (by omega) (by omega)) ?_
  refine lv_topi (fun x_8 e_8 => ?_)
  obtain rfl : x_8 = nI uq := e_8.trans ((pk_rem (a := x1) (d := ((S.2 0 0) + 1)) (by omega) (by omega) (by omega)).trans (congrArg nI euq.symm))
  refine lv_istore (lv' := [(11, .int (nI uq)), (0, .ref (ad 0 0)), (1, .ref (ad 17 0)), (2, .ref (ad 17 1)), (3, .ref (ad 17 2)), (4, .ref (ad 17 3)), (5, .ref (ad 17 4)), (6, .ref (ad 17 8)), (7, .ref (ad 17 10)), (8, .int 0), (9, .int (nI x1)), (10, .int (nI x2))]) hx hb dL_isMessage_9 hl (by decide) rfl (fun ls hl => ?_)
  have M_25 : ∀ (H : Heap) (locs : List Loc), kX E G s H locs ad (cto G S T o ad) → W p l e (headSpec (Cond.code yL_isMessage cL_isMessage 19 (some .boolean) :: wsL_law) ({ frames := 18, cells := 20, slots := 400, locals := 500 } : Room)).room s m ([.ref (ad 0 0), .ref (ad 17 0), .ref (ad 17 1), .ref (ad 17 2), .ref (ad 17 3), .ref (ad 17 4), .ref (ad 17 8), .ref (ad 17 10), .int 0, .int (nI x1), .int (nI x2)] : List Value).toArray below meth c H locs 0 0 (vx_MQ below (kQi E G (fun r ad1 ct1 => (r = 1 ∧ AK ad ad1) ∧ ∃ S1 A1, ct1 = cto G S1 A1 o ad1 ∧ Mid (n9 + 1) S1 A1)) (kXC E G (fun _ _ _ => False)) ([.ref (ad 0 0), .ref (ad 17 0), .ref (ad 17 1), .ref (ad 17 2), .ref (ad 17 3), .ref (ad 17 4), .ref (ad 17 8), .ref (ad 17 10), .int 0, .int (nI x1), .int (nI x2)] : List Value).toArray s 20 400 (kB E.heap.size)) (F0 m 25 ls [.int (bI (decide (uq < S.2 0 0)))]) := by
    intro H locs X
    refine lv_istore (lv' := [(12, .int (bI (decide (uq < S.2 0 0)))), (11, .int (nI uq)), (0, .ref (ad 0 0)), (1, .ref (ad 17 0)), (2, .ref (ad 17 1)), (3, .ref (ad 17 2)), (4, .ref (ad 17 3)), (5, .ref (ad 17 4)), (6, .ref (ad 17 8)), (7, .ref (ad 17 10)), (8, .int 0), (9, .int (nI x1)), (10, .int (nI x2))]) hx hb dL_isMessage_25 hl (by decide) rfl (fun ls hl => ?_)
    refine lv_iload hx hb dL_isMessage_27 (lv_at hl 10 rfl) ?_
    refine lv_if_ne (tgt := 265) hx hb dL_isMessage_29 (by decide) (fun c_29 => ?_) (fun c_29 => ?_)
    · exact absurd c_29 (by decide)
    · obtain ⟨pq, epq⟩ : ∃ y, y = if x1 / 9 % 3 = 0 then 0 else x2 / 13 % (S.2 0 1 + 2) := ⟨_, rfl⟩
      have hpq : pq ≤ S.2 0 1 + 1 := by rw [epq]; split; omega; exact Nat.le_of_lt_succ (Nat.mod_lt _ (by omega))
      have hcq := chq_lt x2
      refine lv_aload hx hb dL_isMessage_32 (lv_at hl 9 rfl) ?_
      refine lv_iconst (v := 2) hx hb dL_isMessage_34 (by decide) ?_
      refine k_ild (ad := ad) (k := 17) (i := 10) Z X ct_17_10 (vp_in_nI (n := 2) (by first | assumption | omega) (by decide)) dL_isMessage_35 ?_
      refine lv_topi (fun x_35 e_35 => ?_)
      obtain rfl : x_35 = T.1 11 2 := e_35.trans (by first | (simp only [nI_clamp (show 2 < 2 ^ 31 by omega)]; done) | rfl | (simp only [nI_clamp (show 2 < 2 ^ 31 by omega)]; rfl) | (simp only [nI_clamp (show 2 < 2 ^ 31 by omega)]; simp [sI, sN]; done))
      refine lv_topi (fun x_35 e_35 => ?_)
      obtain rfl : x_35 = nI (S.2 0 1) := e_35.trans (hT.g2)
      refine lv_bipush (v := 30) hx hb dL_isMessage_36 (by decide) ?_
      refine lv_icmp_ge (tgt := 265) hx hb dL_isMessage_38 (by decide) (fun c_38 => ?_) (fun c_38 => ?_)
      · have c_38 : 30 ≤ S.2 0 1 := (nI_leI (a := 30) (b := S.2 0 1) (by omega) (by omega)).mp c_38
        refine W.widen (k := 0) (n := 0) (by omega) (by omega) ?_
        exact t_isMsg_e (w := 0) (by decide) hE hn9 hx1 hx2 hI huq Z hr hlocks _ _ _ X (lv_sub hl [2, 3, 4, 5, 6, 7, 8, 9, 10, 11, 12, 1, 0] rfl)
      · have c_38 : ¬ 30 ≤ S.2 0 1 := fun h => c_38 ((nI_leI (a := 30) (b := S.2 0 1) (by omega) (by omega)).mpr h)
        have M_58 : ∀ (H : Heap) (locs : List Loc), kX E G s H locs ad (cto G S T o ad) → W p l e (headSpec (Cond.code yL_isMessage cL_isMessage 19 (some .boolean) :: wsL_law) ({ frames := 18, cells := 20, slots := 400, locals := 500 } : Room)).room s m ([.ref (ad 0 0), .ref (ad 17 0), .ref (ad 17 1), .ref (ad 17 2), .ref (ad 17 3), .ref (ad 17 4), .ref (ad 17 8), .ref (ad 17 10), .int 0, .int (nI x1), .int (nI x2)] : List Value).toArray below meth c H locs 0 0 (vx_MQ below (kQi E G (fun r ad1 ct1 => (r = 1 ∧ AK ad ad1) ∧ ∃ S1 A1, ct1 = cto G S1 A1 o ad1 ∧ Mid (n9 + 1) S1 A1)) (kXC E G (fun _ _ _ => False)) ([.ref (ad 0 0), .ref (ad 17 0), .ref (ad 17 1), .ref (ad 17 2), .ref (ad 17 3), .ref (ad 17 4), .ref (ad 17 8), .ref (ad 17 10), .int 0, .int (nI x1), .int (nI x2)] : List Value).toArray s 20 400 (kB E.heap.size)) (F0 m 58 ls [.int (nI (chq x2))]) := by
          intro H locs X
          refine lv_istore (lv' := [(13, .int (nI (chq x2))), (12, .int (bI (decide (uq < S.2 0 0)))), (11, .int (nI uq)), (0, .ref (ad 0 0)), (1, .ref (ad 17 0)), (2, .ref (ad 17 1)), (3, .ref (ad 17 2)), (4, .ref (ad 17 3)), (5, .ref (ad 17 4)), (6, .ref (ad 17 8)), (7, .ref (ad 17 10)), (8, .int 0), (9, .int (nI x1)), (10, .int (nI x2))]) hx hb dL_isMessage_58 hl (by decide) rfl (fun ls hl => ?_)
          have M_88 : ∀ (H : Heap) (locs : List Loc), kX E G s H locs ad (cto G S T o ad) → W p l e (headSpec (Cond.code yL_isMessage cL_isMessage 19 (some .boolean) :: wsL_law) ({ frames := 18, cells := 20, slots := 400, locals := 500 } : Room)).room s m ([.ref (ad 0 0), .ref (ad 17 0), .ref (ad 17 1), .ref (ad 17 2), .ref (ad 17 3), .ref (ad 17 4), .ref (ad 17 8), .ref (ad 17 10), .int 0, .int (nI x1), .int (nI x2)] : List Value).toArray below meth c H locs 0 0 (vx_MQ below (kQi E G (fun r ad1 ct1 => (r = 1 ∧ AK ad ad1) ∧ ∃ S1 A1, ct1 = cto G S1 A1 o ad1 ∧ Mid (n9 + 1) S1 A1)) (kXC E G (fun _ _ _ => False)) ([.ref (ad 0 0), .ref (ad 17 0), .ref (ad 17 1), .ref (ad 17 2), .ref (ad 17 3), .ref (ad 17 4), .ref (ad 17 8), .ref (ad 17 10), .int 0, .int (nI x1), .int (nI x2)] : List Value).toArray s 20 400 (kB E.heap.size)) (F0 m 88 ls [.int (nI pq - 1)]) := by
            intro H locs X
            refine lv_istore (lv' := [(14, .int (nI pq - 1)), (13, .int (nI (chq x2))), (12, .int (bI (decide (uq < S.2 0 0)))), (11, .int (nI uq)), (0, .ref (ad 0 0)), (1, .ref (ad 17 0)), (2, .ref (ad 17 1)), (3, .ref (ad 17 2)), (4, .ref (ad 17 3)), (5, .ref (ad 17 4)), (6, .ref (ad 17 8)), (7, .ref (ad 17 10)), (8, .int 0), (9, .int (nI x1)), (10, .int (nI x2))]) hx hb dL_isMessage_88 hl (by decide) rfl (fun ls hl => ?_)
            have M_116 : ∀ (H : Heap) (locs : List Loc), kX E G s H locs ad (cto G S T o ad) → W p l e (headSpec (Cond.code yL_isMessage cL_isMessage 19 (some .boolean) :: wsL_law) ({ frames := 18, cells := 20, slots := 400, locals := 500 } : Room)).room s m ([.ref (ad 0 0), .ref (ad 17 0), .ref (ad 17 1), .ref (ad 17 2), .ref (ad 17 3), .ref (ad 17 4), .ref (ad 17 8), .ref (ad 17 10), .int 0, .int (nI x1), .int (nI x2)] : List Value).toArray below meth c H locs 0 0 (vx_MQ below (kQi E G (fun r ad1 ct1 => (r = 1 ∧ AK ad ad1) ∧ ∃ S1 A1, ct1 = cto G S1 A1 o ad1 ∧ Mid (n9 + 1) S1 A1)) (kXC E G (fun _ _ _ => False)) ([.ref (ad 0 0), .ref (ad 17 0), .ref (ad 17 1), .ref (ad 17 2), .ref (ad 17 3), .ref (ad 17 4), .ref (ad 17 8), .ref (ad 17 10), .int 0, .int (nI x1), .int (nI x2)] : List Value).toArray s 20 400 (kB E.heap.size)) (F0 m 116 ls [.int (bI (arP S uq (chq x2) pq))]) := by
              intro H locs X
              refine lv_istore (lv' := [(15, .int (bI (arP S uq (chq x2) pq))), (14, .int (nI pq - 1)), (13, .int (nI (chq x2))), (12, .int (bI (decide (uq < S.2 0 0)))), (11, .int (nI uq)), (0, .ref (ad 0 0)), (1, .ref (ad 17 0)), (2, .ref (ad 17 1)), (3, .ref (ad 17 2)), (4, .ref (ad 17 3)), (5, .ref (ad 17 4)), (6, .ref (ad 17 8)), (7, .ref (ad 17 10)), (8, .int 0), (9, .int (nI x1)), (10, .int (nI x2))]) hx hb dL_isMessage_116 hl (by decide) rfl (fun ls hl => ?_)
              have M_169 : ∀ (H : Heap) (locs : List Loc), kX E G s H locs ad (cto G S T o ad) → W p l e (headSpec (Cond.code yL_isMessage cL_isMessage 19 (some .boolean) :: wsL_law) ({ frames := 18, cells := 20, slots := 400, locals := 500 } : Room)).room s m ([.ref (ad 0 0), .ref (ad 17 0), .ref (ad 17 1), .ref (ad 17 2), .ref (ad 17 3), .ref (ad 17 4), .ref (ad 17 8), .ref (ad 17 10), .int 0, .int (nI x1), .int (nI x2)] : List Value).toArray below meth c H locs 0 0 (vx_MQ below (kQi E G (fun r ad1 ct1 => (r = 1 ∧ AK ad ad1) ∧ ∃ S1 A1, ct1 = cto G S1 A1 o ad1 ∧ Mid (n9 + 1) S1 A1)) (kXC E G (fun _ _ _ => False)) ([.ref (ad 0 0), .ref (ad 17 0), .ref (ad 17 1), .ref (ad 17 2), .ref (ad 17 3), .ref (ad 17 4), .ref (ad 17 8), .ref (ad 17 10), .int 0, .int (nI x1), .int (nI x2)] : List Value).toArray s 20 400 (kB E.heap.size)) (F0 m 169 ls [.int (bI (caP S uq (chq x2) pq))]) := by
                intro H locs X
                refine lv_istore (lv' := [(16, .int (bI (caP S uq (chq x2) pq))), (15, .int (bI (arP S uq (chq x2) pq))), (14, .int (nI pq - 1)), (13, .int (nI (chq x2))), (12, .int (bI (decide (uq < S.2 0 0)))), (11, .int (nI uq)), (0, .ref (ad 0 0)), (1, .ref (ad 17 0)), (2, .ref (ad 17 1)), (3, .ref (ad 17 2)), (4, .ref (ad 17 3)), (5, .ref (ad 17 4)), (6, .ref (ad 17 8)), (7, .ref (ad 17 10)), (8, .int 0), (9, .int (nI x1)), (10, .int (nI x2))]) hx hb dL_isMessage_169 hl (by decide) rfl (fun ls hl => ?_)
                refine lv_iload hx hb dL_isMessage_171 (lv_at hl 0 rfl) ?_
                refine lv_if_eq (tgt := 218) hx hb dL_isMessage_173 (by decide) (fun c_173 => ?_) (fun c_173 => ?_)
                · have c_173 : (caP S uq (chq x2) pq) = false := bI_0 c_173
                  rw [c_173] at hl
                  cases har : (arP S uq (chq x2) pq) with
                  | false =>
                    rw [har] at hl
                    refine lv_aload_n hx hb dL_isMessage_218 rfl (lv_at hl 6 rfl) ?_
                    refine lv_iconst (v := 4) hx hb dL_isMessage_219 (by decide) ?_
                    refine lv_iload hx hb dL_isMessage_220 (lv_at hl 5 rfl) ?_
                    refine lv_iload hx hb dL_isMessage_222 (lv_at hl 3 rfl) ?_
                    refine lv_iload hx hb dL_isMessage_224 (lv_at hl 2 rfl) ?_
                    refine lv_iconst (v := 0) hx hb dL_isMessage_226 (by decide) ?_
                    refine k_xRi X (k_xrunSW (As := [.ref (ad 0 0), .int 4, .int (nI uq), .int (nI (chq x2)), .int (nI pq - 1), .int 0]) (rest := []) Z X (c_L_does_4 l E G S T o ad (nI uq) (nI (chq x2)) (nI pq - 1) 0 hE hS hL) (k_cwSW 6 Z.1.2.2.2.2 (inU_6 _ (List.mem_of_getElem? (i := 3) rfl)) (inU_6 _ (List.mem_of_getElem? (i := 4) rfl)) (inU_6 _ (List.mem_of_getElem? (i := 5) rfl)) (inU_6 _ (List.mem_of_getElem? (i := 6) rfl)) rfl rfl (by decide +kernel) ⟨(Nat.le_of_ble_eq_true rfl), (Nat.le_of_ble_eq_true rfl)⟩) rfl hl.1 rfl (Nat.le_of_ble_eq_true rfl) dL_isMessage_227 ⟨(Nat.le_of_ble_eq_true rfl), (Nat.le_of_ble_eq_true rfl)⟩) (fun _ _ _ _ _ _ _ hp => hp.elim) (fun r_227 ad1 ct1 H locs hp X => ?_)
                    have hC : cPost S (nI uq) (nI (chq x2)) (nI pq - 1) = 1 := by rw [cPost_v (by omega) (by omega) (by omega) (by omega), har]; rfl
                    obtain ⟨hAK, hq⟩ := hp
                    rcases hq with ⟨z, -⟩ | ⟨z, hr_, hb_⟩ | ⟨z, -⟩ | ⟨z, -⟩
                    case inl => exact absurd (hC.symm.trans z) (by decide)
                    case inr.inr.inl => exact absurd (hC.symm.trans z) (by decide)
                    case inr.inr.inr => exact absurd (hC.symm.trans z) (by decide)
                    subst hr_
                    rw [hb_] at X
                    rw [← hAK.2.2 10] at hl
                    refine lv_iload hx hb dL_isMessage_230 (lv_at hl 1 rfl) ?_
                    refine lv_if_ne (tgt := 240) hx hb dL_isMessage_232 (by decide) (fun c_232 => ?_) (fun c_232 => ?_)
                    · exact absurd c_232 (by decide)
                    · refine lv_ldc (v := (-3000000)) hx hb Z.1.2.2.2.1 (Z.1.2.2.2.2 _ (inU_1 _ (List.mem_of_getElem? (i := 5) rfl))) dL_isMessage_235 ?_
                      refine lv_goto (tgt := 256) hx hb dL_isMessage_237 (by decide) ?_
                      refine lv_icmp_ne (tgt := 263) hx hb dL_isMessage_256 (by decide) (fun c_256 => ?_) (fun c_256 => ?_)
                      · exact absurd rfl c_256
                      · refine lv_iconst (v := 1) hx hb dL_isMessage_259 (by decide) ?_
                        refine lv_goto (tgt := 264) hx hb dL_isMessage_260 (by decide) ?_
                        exact vx_ret (k_iret Z X hr hlocks rfl (by omega) (by omega) dL_isMessage_264 ⟨⟨rfl, hAK⟩, S, T, rfl, hI.mid (by omega)⟩)
                  | true =>
                    rw [har] at hl
                    refine lv_aload_n hx hb dL_isMessage_218 rfl (lv_at hl 6 rfl) ?_
                    refine lv_iconst (v := 4) hx hb dL_isMessage_219 (by decide) ?_
                    refine lv_iload hx hb dL_isMessage_220 (lv_at hl 5 rfl) ?_
                    refine lv_iload hx hb dL_isMessage_222 (lv_at hl 3 rfl) ?_
                    refine lv_iload hx hb dL_isMessage_224 (lv_at hl 2 rfl) ?_
                    refine lv_iconst (v := 0) hx hb dL_isMessage_226 (by decide) ?_
                    refine k_xRi X (k_xrunSW (As := [.ref (ad 0 0), .int 4, .int (nI uq), .int (nI (chq x2)), .int (nI pq - 1), .int 0]) (rest := []) Z X (c_L_does_4 l E G S T o ad (nI uq) (nI (chq x2)) (nI pq - 1) 0 hE hS hL) (k_cwSW 6 Z.1.2.2.2.2 (inU_6 _ (List.mem_of_getElem? (i := 3) rfl)) (inU_6 _ (List.mem_of_getElem? (i := 4) rfl)) (inU_6 _ (List.mem_of_getElem? (i := 5) rfl)) (inU_6 _ (List.mem_of_getElem? (i := 6) rfl)) rfl rfl (by decide +kernel) ⟨(Nat.le_of_ble_eq_true rfl), (Nat.le_of_ble_eq_true rfl)⟩) rfl hl.1 rfl (Nat.le_of_ble_eq_true rfl) dL_isMessage_227 ⟨(Nat.le_of_ble_eq_true rfl), (Nat.le_of_ble_eq_true rfl)⟩) (fun _ _ _ _ _ _ _ hp => hp.elim) (fun r_227 ad1 ct1 H locs hp X => ?_)
                    have hC : cPost S (nI uq) (nI (chq x2)) (nI pq - 1) = 2 := by rw [cPost_v (by omega) (by omega) (by omega) (by omega), har, c_173]; rfl
                    obtain ⟨hAK, hq⟩ := hp
                    rcases hq with ⟨z, -⟩ | ⟨z, -⟩ | ⟨z, hr_, hb_⟩ | ⟨z, -⟩
                    case inl => exact absurd (hC.symm.trans z) (by decide)
                    case inr.inl => exact absurd (hC.symm.trans z) (by decide)
                    case inr.inr.inr => exact absurd (hC.symm.trans z) (by decide)
                    subst hr_
                    rw [hb_] at X
                    rw [← hAK.2.2 10] at hl
                    refine lv_iload hx hb dL_isMessage_230 (lv_at hl 1 rfl) ?_
                    refine lv_if_ne (tgt := 240) hx hb dL_isMessage_232 (by decide) (fun c_232 => ?_) (fun c_232 => ?_)
                    · refine lv_iload hx hb dL_isMessage_240 (lv_at hl 0 rfl) ?_
                      refine lv_if_eq (tgt := 254) hx hb dL_isMessage_242 (by decide) (fun c_242 => ?_) (fun c_242 => ?_)
                      · refine lv_ldc (v := (-1000000)) hx hb Z.1.2.2.2.1 (Z.1.2.2.2.2 _ (inU_1 _ (List.mem_of_getElem? (i := 8) rfl))) dL_isMessage_254 ?_
                        refine lv_icmp_ne (tgt := 263) hx hb dL_isMessage_256 (by decide) (fun c_256 => ?_) (fun c_256 => ?_)
                        · exact absurd rfl c_256
                        · refine lv_iconst (v := 1) hx hb dL_isMessage_259 (by decide) ?_
                          refine lv_goto (tgt := 264) hx hb dL_isMessage_260 (by decide) ?_
                          exact vx_ret (k_iret Z X hr hlocks rfl (by omega) (by omega) dL_isMessage_264 ⟨⟨rfl, hAK⟩, S, T, rfl, hI.mid (by omega)⟩)
                      · exact absurd c_242 (by decide)
                    · exact absurd c_232 (by decide)
                · have c_173 : (caP S uq (chq x2) pq) = true := bI_1 c_173
                  have hcp0 := c_173
                  simp only [caP, arP, Bool.and_eq_true, decide_eq_true_eq, Bool.not_eq_true'] at hcp0
                  obtain ⟨⟨ar1, ar2, ar3⟩, hg1, -⟩ := hcp0
                  have har : (arP S uq (chq x2) pq) = true := by rw [arP, decide_eq_true ar1, decide_eq_true ar2, decide_eq_true ar3]; rfl
                  rw [har] at hl
                  rw [c_173] at hl
                  refine lv_aload_n hx hb dL_isMessage_176 rfl (lv_at hl 8 rfl) ?_
                  refine lv_aload hx hb dL_isMessage_177 (lv_at hl 13 rfl) ?_
                  refine lv_iconst (v := 2) hx hb dL_isMessage_179 (by decide) ?_
                  refine k_ild (ad := ad) (k := 17) (i := 10) Z X ct_17_10 (vp_in_nI (n := 2) (by first | assumption | omega) (by decide)) dL_isMessage_180 ?_
                  refine lv_topi (fun x_180 e_180 => ?_)
                  obtain rfl : x_180 = T.1 11 2 := e_180.trans (by first | (simp only [nI_clamp (show 2 < 2 ^ 31 by omega)]; done) | rfl | (simp only [nI_clamp (show 2 < 2 ^ 31 by omega)]; rfl) | (simp only [nI_clamp (show 2 < 2 ^ 31 by omega)]; simp [sI, sN]; done))
                  refine lv_topi (fun x_180 e_180 => ?_)
                  obtain rfl : x_180 = nI (S.2 0 1) := e_180.trans (hT.g2)
                  refine lv_iload hx hb dL_isMessage_181 (lv_at hl 5 rfl) ?_
                  refine lv_bipush (v := 16) hx hb dL_isMessage_183 (by decide) ?_
                  refine lv_iload hx hb dL_isMessage_185 (lv_at hl 3 rfl) ?_
                  refine lv_imul hx hb dL_isMessage_187 ?_
                  refine lv_topi (fun x_187 e_187 => ?_)
                  obtain rfl : x_187 = nI (16 * (chq x2)) := e_187.trans (pk_mul 16 (chq x2))
                  refine lv_iadd hx hb dL_isMessage_188 ?_
                  refine lv_topi (fun x_188 e_188 => ?_)
                  obtain rfl : x_188 = nI (uq + (16 * (chq x2))) := e_188.trans (nI_add uq (16 * (chq x2)))
                  refine lv_sipush (v := 128) hx hb dL_isMessage_189 (by decide) ?_
                  refine lv_iload hx hb dL_isMessage_192 (lv_at hl 2 rfl) ?_
                  refine lv_iconst (v := 1) hx hb dL_isMessage_194 (by decide) ?_
                  refine lv_iadd hx hb dL_isMessage_195 ?_
                  refine lv_topi (fun x_195 e_195 => ?_)
                  obtain rfl : x_195 = nI pq := e_195.trans (Int32.sub_add_cancel _ _)
                  refine lv_imul hx hb dL_isMessage_196 ?_
                  refine lv_topi (fun x_196 e_196 => ?_)
                  obtain rfl : x_196 = nI (128 * pq) := e_196.trans (pk_mul 128 pq)
                  refine lv_iadd hx hb dL_isMessage_197 ?_
                  refine lv_topi (fun x_197 e_197 => ?_)
                  obtain rfl : x_197 = nI ((uq + (16 * (chq x2))) + (128 * pq)) := e_197.trans (nI_add (uq + (16 * (chq x2))) (128 * pq))
                  refine k_ist (ad := ad) (k := 17) (i := 1) Z X ct_17_1 (vp_in_nI (n := (S.2 0 1)) (by first | assumption | omega) (by decide)) dL_isMessage_198 (fun H locs X => ?_)
                  have X : kX E G s H locs ad (cto G S (sI T 2 (S.2 0 1) (nI ((uq + (16 * (chq x2))) + (128 * pq)))) o ad) := X.eq (st_17 (a := 1) (by decide) (S.2 0 1) _ (by omega))
                  refine lv_aload hx hb dL_isMessage_199 (lv_at hl 10 rfl) ?_
                  refine lv_aload hx hb dL_isMessage_201 (lv_at hl 13 rfl) ?_
                  refine lv_iconst (v := 2) hx hb dL_isMessage_203 (by decide) ?_
                  refine k_ild (ad := ad) (k := 17) (i := 10) Z X ct_17_10 (vp_in_nI (n := 2) (by first | assumption | omega) (by decide)) dL_isMessage_204 ?_
                  refine lv_topi (fun x_204 e_204 => ?_)
                  obtain rfl : x_204 = T.1 11 2 := e_204.trans (by first | (simp only [nI_clamp (show 2 < 2 ^ 31 by omega)]; done) | rfl | (simp only [nI_clamp (show 2 < 2 ^ 31 by omega)]; rfl) | (simp only [nI_clamp (show 2 < 2 ^ 31 by omega)]; simp [sI, sN]; done))
                  refine lv_topi (fun x_204 e_204 => ?_)
                  obtain rfl : x_204 = nI (S.2 0 1) := e_204.trans (hT.g2)
                  refine lv_aload hx hb dL_isMessage_205 (lv_at hl 13 rfl) ?_
                  refine lv_iconst (v := 0) hx hb dL_isMessage_207 (by decide) ?_
                  refine k_ild (ad := ad) (k := 17) (i := 10) Z X ct_17_10 (vp_in_nI (n := 0) (by first | assumption | omega) (by decide)) dL_isMessage_208 ?_
                  refine lv_topi (fun x_208 e_208 => ?_)
                  obtain rfl : x_208 = T.1 11 0 := e_208.trans (by first | (simp only [nI_clamp (show 0 < 2 ^ 31 by omega)]; done) | rfl | (simp only [nI_clamp (show 0 < 2 ^ 31 by omega)]; rfl) | (simp only [nI_clamp (show 0 < 2 ^ 31 by omega)]; simp [sI, sN]; done))
                  refine lv_topi (fun x_208 e_208 => ?_)
                  obtain rfl : x_208 = S.1 0 0 := e_208.trans (hT.g0)
                  refine k_ist (ad := ad) (k := 17) (i := 3) Z X ct_17_3 (vp_in_nI (n := (S.2 0 1)) (by first | assumption | omega) (by decide)) dL_isMessage_209 (fun H locs X => ?_)
                  have X : kX E G s H locs ad (cto G S (sI (sI T 2 (S.2 0 1) (nI ((uq + (16 * (chq x2))) + (128 * pq)))) 4 (S.2 0 1) (S.1 0 0)) o ad) := X.eq (st_17 (a := 3) (by decide) (S.2 0 1) _ (by omega))
                  refine lv_aload hx hb dL_isMessage_210 (lv_at hl 13 rfl) ?_
                  refine lv_iconst (v := 2) hx hb dL_isMessage_212 (by decide) ?_
                  refine lv_dup2_11 hx hb dL_isMessage_213 rfl rfl ?_
                  refine k_ild (ad := ad) (k := 17) (i := 10) Z X ct_17_10 (vp_in_nI (n := 2) (by first | assumption | omega) (by decide)) dL_isMessage_214 ?_
                  refine lv_topi (fun x_214 e_214 => ?_)
                  obtain rfl : x_214 = T.1 11 2 := e_214.trans (by first | (simp only [nI_clamp (show 2 < 2 ^ 31 by omega)]; done) | rfl | (simp only [nI_clamp (show 2 < 2 ^ 31 by omega)]; rfl) | (simp only [nI_clamp (show 2 < 2 ^ 31 by omega)]; simp [sI, sN]; done))
                  refine lv_topi (fun x_214 e_214 => ?_)
                  obtain rfl : x_214 = nI (S.2 0 1) := e_214.trans (hT.g2)
                  refine lv_iconst (v := 1) hx hb dL_isMessage_215 (by decide) ?_
                  refine lv_iadd hx hb dL_isMessage_216 ?_
                  refine lv_topi (fun x_216 e_216 => ?_)
                  obtain rfl : x_216 = nI ((S.2 0 1) + 1) := e_216.trans (nI_add (S.2 0 1) 1)
                  refine k_ist (ad := ad) (k := 17) (i := 10) Z X ct_17_10 (vp_in_nI (n := 2) (by first | assumption | omega) (by decide)) dL_isMessage_217 (fun H locs X => ?_)
                  have X : kX E G s H locs ad (cto G S (sI (sI (sI T 2 (S.2 0 1) (nI ((uq + (16 * (chq x2))) + (128 * pq)))) 4 (S.2 0 1) (S.1 0 0)) 11 2 (nI ((S.2 0 1) + 1))) o ad) := X.eq (st_17 (a := 10) (by decide) 2 _ (by omega))
                  refine lv_aload_n hx hb dL_isMessage_218 rfl (lv_at hl 6 rfl) ?_
                  refine lv_iconst (v := 4) hx hb dL_isMessage_219 (by decide) ?_
                  refine lv_iload hx hb dL_isMessage_220 (lv_at hl 5 rfl) ?_
                  refine lv_iload hx hb dL_isMessage_222 (lv_at hl 3 rfl) ?_
                  refine lv_iload hx hb dL_isMessage_224 (lv_at hl 2 rfl) ?_
                  refine lv_iconst (v := 0) hx hb dL_isMessage_226 (by decide) ?_
                  refine k_xRi X (k_xrunSW (As := [.ref (ad 0 0), .int 4, .int (nI uq), .int (nI (chq x2)), .int (nI pq - 1), .int 0]) (rest := []) Z X (c_L_does_4 l E G S (sI (sI (sI T 2 (S.2 0 1) (nI ((uq + (16 * (chq x2))) + (128 * pq)))) 4 (S.2 0 1) (S.1 0 0)) 11 2 (nI ((S.2 0 1) + 1))) o ad (nI uq) (nI (chq x2)) (nI pq - 1) 0 hE hS hL) (k_cwSW 6 Z.1.2.2.2.2 (inU_6 _ (List.mem_of_getElem? (i := 3) rfl)) (inU_6 _ (List.mem_of_getElem? (i := 4) rfl)) (inU_6 _ (List.mem_of_getElem? (i := 5) rfl)) (inU_6 _ (List.mem_of_getElem? (i := 6) rfl)) rfl rfl (by decide +kernel) ⟨(Nat.le_of_ble_eq_true rfl), (Nat.le_of_ble_eq_true rfl)⟩) rfl hl.1 rfl (Nat.le_of_ble_eq_true rfl) dL_isMessage_227 ⟨(Nat.le_of_ble_eq_true rfl), (Nat.le_of_ble_eq_true rfl)⟩) (fun _ _ _ _ _ _ _ hp => hp.elim) (fun r_227 ad1 ct1 H locs hp X => ?_)
                  have hC : cPost S (nI uq) (nI (chq x2)) (nI pq - 1) = 0 := by rw [cPost_v (by omega) (by omega) (by omega) (by omega), har, c_173]; rfl
                  obtain ⟨hAK, hq⟩ := hp
                  rcases hq with ⟨z, hr_, S1, hS1, hb_⟩ | ⟨z, -⟩ | ⟨z, -⟩ | ⟨z, -⟩
                  case inr.inl => exact absurd (hC.symm.trans z) (by decide)
                  case inr.inr.inl => exact absurd (hC.symm.trans z) (by decide)
                  case inr.inr.inr => exact absurd (hC.symm.trans z) (by decide)
                  subst hr_
                  obtain ⟨cap, hcap, rfl⟩ := hS1
                  rw [hb_] at X
                  rw [← hAK.2.2 10] at hl
                  refine lv_iload hx hb dL_isMessage_230 (lv_at hl 1 rfl) ?_
                  refine lv_if_ne (tgt := 240) hx hb dL_isMessage_232 (by decide) (fun c_232 => ?_) (fun c_232 => ?_)
                  · refine lv_iload hx hb dL_isMessage_240 (lv_at hl 0 rfl) ?_
                    refine lv_if_eq (tgt := 254) hx hb dL_isMessage_242 (by decide) (fun c_242 => ?_) (fun c_242 => ?_)
                    · exact absurd c_242 (by decide)
                    · refine lv_aload hx hb dL_isMessage_245 (lv_at hl 13 rfl) ?_
                      refine lv_iconst (v := 2) hx hb dL_isMessage_247 (by decide) ?_
                      refine k_ild (ad := ad1) (k := 17) (i := 10) Z X ct_17_10 (vp_in_nI (n := 2) (by first | assumption | omega) (by decide)) dL_isMessage_248 ?_
                      refine lv_topi (fun x_248 e_248 => ?_)
                      obtain rfl : x_248 = nI ((S.2 0 1) + 1) := e_248.trans (by first | (simp only [nI_clamp (show 2 < 2 ^ 31 by omega)]; done) | rfl | (simp only [nI_clamp (show 2 < 2 ^ 31 by omega)]; rfl) | (simp only [nI_clamp (show 2 < 2 ^ 31 by omega)]; simp [sI, sN]; done))
                      refine lv_iconst (v := 1) hx hb dL_isMessage_249 (by decide) ?_
                      refine lv_isub hx hb dL_isMessage_250 ?_
                      refine lv_topi (fun x_250 e_250 => ?_)
                      obtain rfl : x_250 = nI (S.2 0 1) := e_250.trans (nI_pred _)
                      refine lv_goto (tgt := 256) hx hb dL_isMessage_251 (by decide) ?_
                      refine lv_icmp_ne (tgt := 263) hx hb dL_isMessage_256 (by decide) (fun c_256 => ?_) (fun c_256 => ?_)
                      · exact absurd rfl c_256
                      · refine lv_iconst (v := 1) hx hb dL_isMessage_259 (by decide) ?_
                        refine lv_goto (tgt := 264) hx hb dL_isMessage_260 (by decide) ?_
                        exact vx_ret (k_iret Z X hr hlocks rfl (by omega) (by omega) dL_isMessage_264 ⟨⟨rfl, hAK⟩, _, _, rfl, hI.post hn9 (by omega) ar2 (by omega) (by omega) hC hcap⟩)
                  · exact absurd c_232 (by decide)
              refine lv_iload hx hb dL_isMessage_118 (lv_at hl 0 rfl) ?_
              refine lv_if_eq (tgt := 168) hx hb dL_isMessage_120 (by decide) (fun c_120 => ?_) (fun c_120 => ?_)
              · have c_120 : (arP S uq (chq x2) pq) = false := bI_0 c_120
                refine lv_iconst (v := 0) hx hb dL_isMessage_168 (by decide) ?_
                exact W.eq (congrArg (fun z => F0 m 169 ls (.int z :: [])) (bI_f (by simp [caP, c_120]))) (M_169 _ _ X)
              · have c_120 : (arP S uq (chq x2) pq) = true := bI_1 c_120
                have har := c_120
                simp only [arP, Bool.and_eq_true, decide_eq_true_eq] at har
                obtain ⟨ar1, ar2, ar3⟩ := har
                refine lv_aload_n hx hb dL_isMessage_123 rfl (lv_at hl 6 rfl) ?_
                refine lv_aload hx hb dL_isMessage_124 (lv_at hl 12 rfl) ?_
                refine lv_iload hx hb dL_isMessage_126 (lv_at hl 4 rfl) ?_
                refine k_Ri X (k_runS (As := [.ref (ad 17 0), .ref (ad 17 10), .int (nI uq)]) (rest := []) Z X (c_L_isGone l E G S T o ad S hT uq (by omega)) (k_cwS 3 Z.1.2.2.2.2 (inU_27 _ (List.mem_of_getElem? (i := 11) rfl)) (inU_27 _ (List.mem_of_getElem? (i := 12) rfl)) (inU_6 _ (List.mem_of_getElem? (i := 5) rfl)) (inU_27 _ (List.mem_of_getElem? (i := 13) rfl)) rfl rfl (by decide +kernel) ⟨Nat.le_of_ble_eq_true rfl, Nat.le_of_ble_eq_true rfl⟩) rfl hl.1 rfl (Nat.le_of_ble_eq_true rfl) dL_isMessage_128 ⟨(by first | exact Nat.le_of_ble_eq_true rfl | (show _ ≤ (_ : Nat); simp only [headSpec]; omega)), (by first | exact Nat.le_of_ble_eq_true rfl | (show _ ≤ (_ : Nat); simp only [headSpec]; omega))⟩) (fun r_128 ad1 ct1 H locs hp X => ?_)
                obtain ⟨rfl, ha_, hb_⟩ := hp
                rw [← ha_, hb_] at X
                refine lv_if_ne (tgt := 168) hx hb dL_isMessage_131 (by decide) (fun c_131 => ?_) (fun c_131 => ?_)
                · have c_131 : (gone S uq) = true := bI_1 c_131
                  refine lv_iconst (v := 0) hx hb dL_isMessage_168 (by decide) ?_
                  exact W.eq (congrArg (fun z => F0 m 169 ls (.int z :: [])) (bI_f (by simp [caP, c_120, c_131]))) (M_169 _ _ X)
                · have c_131 : (gone S uq) = false := bI_0 c_131
                  refine lv_iload hx hb dL_isMessage_134 (lv_at hl 1 rfl) ?_
                  refine lv_if_lt (tgt := 164) hx hb dL_isMessage_136 (by decide) (fun c_136 => ?_) (fun c_136 => ?_)
                  · have s_136 : pq = 0 := (m1_lt (by omega)).mp c_136
                    refine lv_iconst (v := 1) hx hb dL_isMessage_164 (by decide) ?_
                    refine lv_goto (tgt := 169) hx hb dL_isMessage_165 (by decide) ?_
                    exact W.eq (congrArg (fun z => F0 m 169 ls (.int z :: [])) (bI_t (by rw [caP, c_120, c_131, decide_eq_true s_136]; rfl))) (M_169 _ _ X)
                  · have s_136 : ¬ pq = 0 := fun z => c_136 ((m1_lt (by omega)).mpr z)
                    rw [m1_at (show 1 ≤ pq by omega)] at hl
                    have hmm := hT.mm hN (j := pq - 1) (by omega)
                    have hmm1 := hmm.1
                    have hmc := (hN.2.2.2.2.1 (pq - 1) (by omega)).2
                    refine lv_aload_n hx hb dL_isMessage_139 rfl (lv_at hl 7 rfl) ?_
                    refine lv_iload hx hb dL_isMessage_140 (lv_at hl 1 rfl) ?_
                    refine k_ild (ad := ad) (k := 17) (i := 1) Z X ct_17_1 (vp_in_nI (n := (pq - 1)) (by first | assumption | omega) (by decide)) dL_isMessage_142 ?_
                    refine lv_topi (fun x_142 e_142 => ?_)
                    obtain rfl : x_142 = T.1 2 (pq - 1) := e_142.trans (by first | (simp only [nI_clamp (show pq - 1 < 2 ^ 31 by omega)]; done) | rfl | (simp only [nI_clamp (show pq - 1 < 2 ^ 31 by omega)]; rfl) | (simp only [nI_clamp (show pq - 1 < 2 ^ 31 by omega)]; simp [sI, sN]; done))
                    refine lv_topi (fun x_142 e_142 => ?_)
                    obtain rfl : x_142 = nI (encm S (pq - 1)) := e_142.trans (hT.m (by omega))
                    refine lv_bipush (v := 16) hx hb dL_isMessage_143 (by decide) ?_
                    refine lv_idiv hx hb dL_isMessage_145 (by decide) ?_
                    refine lv_topi (fun x_145 e_145 => ?_)
                    obtain rfl : x_145 = nI ((encm S (pq - 1)) / 16) := e_145.trans ((pk_div (a := (encm S (pq - 1))) (d := 16) (by have := (hT.mm hN (j := (pq - 1)) (by omega)).1; omega) (by omega) (by omega)))
                    refine lv_bipush (v := 8) hx hb dL_isMessage_146 (by decide) ?_
                    refine lv_irem hx hb dL_isMessage_148 (by decide) ?_
                    refine lv_topi (fun x_148 e_148 => ?_)
                    obtain rfl : x_148 = nI (S.2 2 (pq - 1)) := e_148.trans ((pk_rem (a := ((encm S (pq - 1)) / 16)) (d := 8) (by have := (hT.mm hN (j := (pq - 1)) (by omega)).1; omega) (by omega) (by omega)).trans (congrArg nI (hT.mm hN (j := (pq - 1)) (by omega)).2.2.1))
                    refine lv_iload hx hb dL_isMessage_149 (lv_at hl 2 rfl) ?_
                    refine lv_icmp_ne (tgt := 168) hx hb dL_isMessage_151 (by decide) (fun c_151 => ?_) (fun c_151 => ?_)
                    · have c_151 : ¬ S.2 2 (pq - 1) = chq x2 := fun h => c_151 ((nI_eq (a := S.2 2 (pq - 1)) (b := chq x2) (by omega) (by omega)).mpr h)
                      refine lv_iconst (v := 0) hx hb dL_isMessage_168 (by decide) ?_
                      exact W.eq (congrArg (fun z => F0 m 169 ls (.int z :: [])) (bI_f (by simp [caP, c_120, c_131, c_151, s_136]))) (M_169 _ _ X)
                    · have c_151 : S.2 2 (pq - 1) = chq x2 := (nI_eq (a := S.2 2 (pq - 1)) (b := chq x2) (by omega) (by omega)).mp c_151
                      refine lv_aload_n hx hb dL_isMessage_154 rfl (lv_at hl 7 rfl) ?_
                      refine lv_iload hx hb dL_isMessage_155 (lv_at hl 1 rfl) ?_
                      refine k_ild (ad := ad) (k := 17) (i := 1) Z X ct_17_1 (vp_in_nI (n := (pq - 1)) (by first | assumption | omega) (by decide)) dL_isMessage_157 ?_
                      refine lv_topi (fun x_157 e_157 => ?_)
                      obtain rfl : x_157 = T.1 2 (pq - 1) := e_157.trans (by first | (simp only [nI_clamp (show pq - 1 < 2 ^ 31 by omega)]; done) | rfl | (simp only [nI_clamp (show pq - 1 < 2 ^ 31 by omega)]; rfl) | (simp only [nI_clamp (show pq - 1 < 2 ^ 31 by omega)]; simp [sI, sN]; done))
                      refine lv_topi (fun x_157 e_157 => ?_)
                      obtain rfl : x_157 = nI (encm S (pq - 1)) := e_157.trans (hT.m (by omega))
                      refine lv_sipush (v := 8192) hx hb dL_isMessage_158 (by decide) ?_
                      refine lv_icmp_ge (tgt := 168) hx hb dL_isMessage_161 (by decide) (fun c_161 => ?_) (fun c_161 => ?_)
                      · have c_161 : 8192 ≤ encm S (pq - 1) := (nI_leI (a := 8192) (b := encm S (pq - 1)) (by omega) (by omega)).mp c_161
                        have s_161 : ¬ S.1 8 (pq - 1) = 0 := fun z => absurd (hmm.2.2.2.2.2.mpr z) (by omega)
                        refine lv_iconst (v := 0) hx hb dL_isMessage_168 (by decide) ?_
                        exact W.eq (congrArg (fun z => F0 m 169 ls (.int z :: [])) (bI_f (by simp [caP, c_120, c_131, c_151, s_136, s_161]))) (M_169 _ _ X)
                      · have c_161 : ¬ 8192 ≤ encm S (pq - 1) := fun h => c_161 ((nI_leI (a := 8192) (b := encm S (pq - 1)) (by omega) (by omega)).mpr h)
                        have s_161 : S.1 8 (pq - 1) = 0 := hmm.2.2.2.2.2.mp (by omega)
                        refine lv_iconst (v := 1) hx hb dL_isMessage_164 (by decide) ?_
                        refine lv_goto (tgt := 169) hx hb dL_isMessage_165 (by decide) ?_
                        exact W.eq (congrArg (fun z => F0 m 169 ls (.int z :: [])) (bI_t (by simp [caP, c_120, c_131, c_151, s_136, s_161]))) (M_169 _ _ X)
            refine lv_iload hx hb dL_isMessage_90 (lv_at hl 2 rfl) ?_
            refine lv_if_eq (tgt := 115) hx hb dL_isMessage_92 (by decide) (fun c_92 => ?_) (fun c_92 => ?_)
            · have c_92 : (decide (uq < S.2 0 0)) = false := bI_0 c_92
              refine lv_iconst (v := 0) hx hb dL_isMessage_115 (by decide) ?_
              exact W.eq (congrArg (fun z => F0 m 116 ls (.int z :: [])) (bI_f (by rw [arP, c_92]; rfl))) (M_116 _ _ X)
            · have c_92 : (decide (uq < S.2 0 0)) = true := bI_1 c_92
              refine lv_iload hx hb dL_isMessage_95 (lv_at hl 1 rfl) ?_
              refine lv_bipush (v := 6) hx hb dL_isMessage_97 (by decide) ?_
              refine lv_icmp_ge (tgt := 115) hx hb dL_isMessage_99 (by decide) (fun c_99 => ?_) (fun c_99 => ?_)
              · have c_99 : 6 ≤ chq x2 := (nI_leI (a := 6) (b := chq x2) (by omega) (by omega)).mp c_99
                have c_99 : ¬ chq x2 < 6 := by omega
                refine lv_iconst (v := 0) hx hb dL_isMessage_115 (by decide) ?_
                exact W.eq (congrArg (fun z => F0 m 116 ls (.int z :: [])) (bI_f (by rw [arP, decide_eq_false c_99, Bool.false_and, Bool.and_false]))) (M_116 _ _ X)
              · have c_99 : ¬ 6 ≤ chq x2 := fun h => c_99 ((nI_leI (a := 6) (b := chq x2) (by omega) (by omega)).mpr h)
                have c_99 : chq x2 < 6 := by omega
                refine lv_iload hx hb dL_isMessage_102 (lv_at hl 0 rfl) ?_
                refine lv_aload hx hb dL_isMessage_104 (lv_at hl 11 rfl) ?_
                refine lv_iconst (v := 2) hx hb dL_isMessage_106 (by decide) ?_
                refine k_ild (ad := ad) (k := 17) (i := 10) Z X ct_17_10 (vp_in_nI (n := 2) (by first | assumption | omega) (by decide)) dL_isMessage_107 ?_
                refine lv_topi (fun x_107 e_107 => ?_)
                obtain rfl : x_107 = T.1 11 2 := e_107.trans (by first | (simp only [nI_clamp (show 2 < 2 ^ 31 by omega)]; done) | rfl | (simp only [nI_clamp (show 2 < 2 ^ 31 by omega)]; rfl) | (simp only [nI_clamp (show 2 < 2 ^ 31 by omega)]; simp [sI, sN]; done))
                refine lv_topi (fun x_107 e_107 => ?_)
                obtain rfl : x_107 = nI (S.2 0 1) := e_107.trans (hT.g2)
                refine lv_icmp_ge (tgt := 115) hx hb dL_isMessage_108 (by decide) (fun c_108 => ?_) (fun c_108 => ?_)
                · have s_108 : ¬ pq ≤ S.2 0 1 := fun z => absurd ((m1_ge (by omega) (by omega)).mp c_108) (by omega)
                  refine lv_iconst (v := 0) hx hb dL_isMessage_115 (by decide) ?_
                  exact W.eq (congrArg (fun z => F0 m 116 ls (.int z :: [])) (bI_f (by rw [arP, decide_eq_false s_108, Bool.and_false, Bool.and_false]))) (M_116 _ _ X)
                · have s_108 : pq ≤ S.2 0 1 := Nat.le_of_not_lt (fun z => c_108 ((m1_ge (p := pq) (n := S.2 0 1) (by omega) (by omega)).mpr z))
                  refine lv_iconst (v := 1) hx hb dL_isMessage_111 (by decide) ?_
                  refine lv_goto (tgt := 116) hx hb dL_isMessage_112 (by decide) ?_
                  exact W.eq (congrArg (fun z => F0 m 116 ls (.int z :: [])) (bI_t (by rw [arP, c_92, decide_eq_true c_99, decide_eq_true s_108]; rfl))) (M_116 _ _ X)
          refine lv_iload hx hb dL_isMessage_60 (lv_at hl 12 rfl) ?_
          refine lv_bipush (v := 9) hx hb dL_isMessage_62 (by decide) ?_
          refine lv_idiv hx hb dL_isMessage_64 (by decide) ?_
          refine lv_topi (fun x_64 e_64 => ?_)
          obtain rfl : x_64 = nI (x1 / 9) := e_64.trans ((pk_div (a := x1) (d := 9) (by omega) (by omega) (by omega)))
          refine lv_iconst (v := 3) hx hb dL_isMessage_65 (by decide) ?_
          refine lv_irem hx hb dL_isMessage_66 (by decide) ?_
          refine lv_topi (fun x_66 e_66 => ?_)
          obtain rfl : x_66 = nI ((x1 / 9) % 3) := e_66.trans ((pk_rem (a := (x1 / 9)) (d := 3) (by omega) (by omega) (by omega)))
          refine lv_if_ne (tgt := 74) hx hb dL_isMessage_67 (by decide) (fun c_67 => ?_) (fun c_67 => ?_)
          · have c_67 : ¬ (x1 / 9) % 3 = 0 := fun h => c_67 ((nI_eq (a := (x1 / 9) % 3) (b := 0) (by omega) (by omega)).mpr h)
            refine lv_iload hx hb dL_isMessage_74 (lv_at hl 13 rfl) ?_
            refine lv_bipush (v := 13) hx hb dL_isMessage_76 (by decide) ?_
            refine lv_idiv hx hb dL_isMessage_78 (by decide) ?_
            refine lv_topi (fun x_78 e_78 => ?_)
            obtain rfl : x_78 = nI (x2 / 13) := e_78.trans ((pk_div (a := x2) (d := 13) (by omega) (by omega) (by omega)))
            refine lv_aload hx hb dL_isMessage_79 (lv_at hl 10 rfl) ?_
            refine lv_iconst (v := 2) hx hb dL_isMessage_81 (by decide) ?_
            refine k_ild (ad := ad) (k := 17) (i := 10) Z X ct_17_10 (vp_in_nI (n := 2) (by first | assumption | omega) (by decide)) dL_isMessage_82 ?_
            refine lv_topi (fun x_82 e_82 => ?_)
            obtain rfl : x_82 = T.1 11 2 := e_82.trans (by first | (simp only [nI_clamp (show 2 < 2 ^ 31 by omega)]; done) | rfl | (simp only [nI_clamp (show 2 < 2 ^ 31 by omega)]; rfl) | (simp only [nI_clamp (show 2 < 2 ^ 31 by omega)]; simp [sI, sN]; done))
            refine lv_topi (fun x_82 e_82 => ?_)
            obtain rfl : x_82 = nI (S.2 0 1) := e_82.trans (hT.g2)
            refine lv_iconst (v := 2) hx hb dL_isMessage_83 (by decide) ?_
            refine lv_iadd hx hb dL_isMessage_84 ?_
            refine lv_topi (fun x_84 e_84 => ?_)
            obtain rfl : x_84 = nI ((S.2 0 1) + 2) := e_84.trans (nI_add (S.2 0 1) 2)
            refine lv_irem hx hb dL_isMessage_85 (nI_ne0 (by omega) (by omega)) ?_
            refine lv_topi (fun x_85 e_85 => ?_)
            obtain rfl : x_85 = nI ((x2 / 13) % ((S.2 0 1) + 2)) := e_85.trans ((pk_rem (a := (x2 / 13)) (d := ((S.2 0 1) + 2)) (by omega) (by omega) (by omega)))
            refine lv_iconst (v := 1) hx hb dL_isMessage_86 (by decide) ?_
            refine lv_isub hx hb dL_isMessage_87 ?_
            exact W.eq (congrArg (fun z => F0 m 88 ls (.int z :: [])) (by rw [epq, if_neg c_67])) (M_88 _ _ X)
          · have c_67 : (x1 / 9) % 3 = 0 := (nI_eq (a := (x1 / 9) % 3) (b := 0) (by omega) (by omega)).mp c_67
            refine lv_iconst (v := (-1)) hx hb dL_isMessage_70 (by decide) ?_
            refine lv_goto (tgt := 88) hx hb dL_isMessage_71 (by decide) ?_
            exact W.eq (congrArg (fun z => F0 m 88 ls (.int z :: [])) (by rw [epq, if_pos c_67]; rfl)) (M_88 _ _ X)
        refine lv_iload hx hb dL_isMessage_41 (lv_at hl 12 rfl) ?_
        refine lv_bipush (v := 13) hx hb dL_isMessage_43 (by decide) ?_
        refine lv_irem hx hb dL_isMessage_45 (by decide) ?_
        refine lv_topi (fun x_45 e_45 => ?_)
        obtain rfl : x_45 = nI (x2 % 13) := e_45.trans ((pk_rem (a := x2) (d := 13) (by omega) (by omega) (by omega)))
        refine lv_if_ne (tgt := 54) hx hb dL_isMessage_46 (by decide) (fun c_46 => ?_) (fun c_46 => ?_)
        · have c_46 : ¬ x2 % 13 = 0 := fun h => c_46 ((nI_eq (a := x2 % 13) (b := 0) (by omega) (by omega)).mpr h)
          refine lv_iload hx hb dL_isMessage_54 (lv_at hl 12 rfl) ?_
          refine lv_iconst (v := 2) hx hb dL_isMessage_56 (by decide) ?_
          refine lv_irem hx hb dL_isMessage_57 (by decide) ?_
          refine lv_topi (fun x_57 e_57 => ?_)
          obtain rfl : x_57 = nI (x2 % 2) := e_57.trans ((pk_rem (a := x2) (d := 2) (by omega) (by omega) (by omega)))
          exact W.eq (congrArg (fun z => F0 m 58 ls (.int z :: [])) (by rw [chq, if_neg c_46])) (M_58 _ _ X)
        · have c_46 : x2 % 13 = 0 := (nI_eq (a := x2 % 13) (b := 0) (by omega) (by omega)).mp c_46
          refine lv_bipush (v := 6) hx hb dL_isMessage_49 (by decide) ?_
          refine lv_goto (tgt := 58) hx hb dL_isMessage_51 (by decide) ?_
          exact W.eq (congrArg (fun z => F0 m 58 ls (.int z :: [])) (by rw [chq, if_pos c_46]; rfl)) (M_58 _ _ X)
  refine lv_iload hx hb dL_isMessage_11 (lv_at hl 0 rfl) ?_
  refine lv_aload hx hb dL_isMessage_13 (lv_at hl 8 rfl) ?_
  refine lv_iconst (v := 1) hx hb dL_isMessage_15 (by decide) ?_
  refine k_ild (ad := ad) (k := 17) (i := 10) Z X ct_17_10 (vp_in_nI (n := 1) (by first | assumption | omega) (by decide)) dL_isMessage_16 ?_
  refine lv_topi (fun x_16 e_16 => ?_)
  obtain rfl : x_16 = T.1 11 1 := e_16.trans (by first | (simp only [nI_clamp (show 1 < 2 ^ 31 by omega)]; done) | rfl | (simp only [nI_clamp (show 1 < 2 ^ 31 by omega)]; rfl) | (simp only [nI_clamp (show 1 < 2 ^ 31 by omega)]; simp [sI, sN]; done))
  refine lv_topi (fun x_16 e_16 => ?_)
  obtain rfl : x_16 = nI (S.2 0 0) := e_16.trans (hT.g1)
  refine lv_icmp_ge (tgt := 24) hx hb dL_isMessage_17 (by decide) (fun c_17 => ?_) (fun c_17 => ?_)
  · have c_17 : S.2 0 0 ≤ uq := (nI_leI (a := S.2 0 0) (b := uq) (by omega) (by omega)).mp c_17
    refine lv_iconst (v := 0) hx hb dL_isMessage_24 (by decide) ?_
    exact W.eq (congrArg (fun z => F0 m 25 ls (.int z :: [])) (bI_f (decide_eq_false (by omega)))) (M_25 _ _ X)
  · have c_17 : ¬ S.2 0 0 ≤ uq := fun h => c_17 ((nI_leI (a := S.2 0 0) (b := uq) (by omega) (by omega)).mpr h)
    refine lv_iconst (v := 1) hx hb dL_isMessage_20 (by decide) ?_
    refine lv_goto (tgt := 25) hx hb dL_isMessage_21 (by decide) ?_
    exact W.eq (congrArg (fun z => F0 m 25 ls (.int z :: [])) (bI_t (decide_eq_true (by omega)))) (M_25 _ _ X)
set_option maxHeartbeats 4000000 in
set_option maxRecDepth 100000 in
theorem c_L_isMessage_1 (l : Launch) (E : State) (G : kG) (S T : kSt) (o : Int64) (ad : kAd) {n9 x1 x2 : Nat} (hE : kE l E G) (hn9 : n9 ≤ 90) (hx1 : x1 < 60000) (hx2 : x2 < 60000) (hI : Iv n9 S T) : vx_Met l yL_isMessage (.code yL_isMessage cL_isMessage 19 (some .boolean) :: wsL_law) ({ frames := 18, cells := 20, slots := 400, locals := 500 } : Room) (va_Pc [.ref (ad 0 0), .ref (ad 17 0), .ref (ad 17 1), .ref (ad 17 2), .ref (ad 17 3), .ref (ad 17 4), .ref (ad 17 8), .ref (ad 17 10), .int 1, .int (nI x1), .int (nI x2)] (kPre E G ad (cto G S T o ad))) (kQi E G (fun r ad1 ct1 => (r = 1 ∧ AK ad ad1) ∧ ∃ S1 A1, ct1 = cto G S1 A1 o ad1 ∧ Mid (n9 + 1) S1 A1)) (kXC E G (fun _ _ _ => False)) 20 400 (kB E.heap.size) := by
  refine vx_ofW (cc := cL_isMessage) (maxL := 19) (ret := (some .boolean)) (by decide) rfl ?_
  intro p e s m args below meth c s₁ B hml hout hv
  obtain ⟨rfl, hM, hK, hW0⟩ := hv
  have hlocks := B.notSynchronized
  have hr := B.returns
  have Z : kZ p m c cL_isMessage 19 s _ wsL_law RL E G := ⟨⟨B.exec, B.bytes, hml, findClass_of_methodNamed B.named, fun w h => atoms_spec (ws := .code yL_isMessage cL_isMessage 19 (some .boolean) :: wsL_law) B.pre w (List.mem_cons_of_mem _ h)⟩, hM, hK⟩
  have hx := Z.1.1
  have hb := Z.1.2.1
  have X := kX.of hW0
  have hl := lv_entry ([.ref (ad 0 0), .ref (ad 17 0), .ref (ad 17 1), .ref (ad 17 2), .ref (ad 17 3), .ref (ad 17 4), .ref (ad 17 8), .ref (ad 17 10), .int 1, .int (nI x1), .int (nI x2)]) (n := 19) (Nat.le_of_ble_eq_true rfl)
  rw [lg_entry_eq]
  generalize (lg_sl ([.ref (ad 0 0), .ref (ad 17 0), .ref (ad 17 1), .ref (ad 17 2), .ref (ad 17 3), .ref (ad 17 4), .ref (ad 17 8), .ref (ad 17 10), .int 1, .int (nI x1), .int (nI x2)]) ++ List.replicate (19 - (lg_sl ([.ref (ad 0 0), .ref (ad 17 0), .ref (ad 17 1), .ref (ad 17 2), .ref (ad 17 3), .ref (ad 17 4), .ref (ad 17 8), .ref (ad 17 10), .int 1, .int (nI x1), .int (nI x2)])).length) Slot.unset).toArray = ls at hl ⊢
  have hl : lv_has ls 19 [(0, .ref (ad 0 0)), (1, .ref (ad 17 0)), (2, .ref (ad 17 1)), (3, .ref (ad 17 2)), (4, .ref (ad 17 3)), (5, .ref (ad 17 4)), (6, .ref (ad 17 8)), (7, .ref (ad 17 10)), (8, .int 1), (9, .int (nI x1)), (10, .int (nI x2))] := hl
  have hT := hI.lt
  obtain ⟨hS, hL, hK9, hLg, hRp, hlog9, hB⟩ := hI.1.ok
  have hN := hS
  have hlog : S.2 0 4 < 512 := by omega
  obtain ⟨hc0, hc1, hc2, hc3⟩ := hT.c
  obtain ⟨uq, euq⟩ : ∃ y, y = x1 % (S.2 0 0 + 1) := ⟨_, rfl⟩
  have huq : uq ≤ S.2 0 0 := by rw [euq]; exact Nat.le_of_lt_succ (Nat.mod_lt _ (by omega))
  refine lv_iload hx hb dL_isMessage_0 (lv_at hl 9 rfl) ?_
  refine lv_aload hx hb dL_isMessage_2 (lv_at hl 7 rfl) ?_
  refine lv_iconst (v := 1) hx hb dL_isMessage_4 (by decide) ?_
  refine k_ild (ad := ad) (k := 17) (i := 10) Z X ct_17_10 (vp_in_nI (n := 1) (by first | assumption | omega) (by decide)) dL_isMessage_5 ?_
  refine lv_topi (fun x_5 e_5 => ?_)
  obtain rfl : x_5 = T.1 11 1 := e_5.trans (by first | (simp only [nI_clamp (show 1 < 2 ^ 31 by omega)]; done) | rfl | (simp only [nI_clamp (show 1 < 2 ^ 31 by omega)]; rfl) | (simp only [nI_clamp (show 1 < 2 ^ 31 by omega)]; simp [sI, sN]; done))
  refine lv_topi (fun x_5 e_5 => ?_)
  obtain rfl : x_5 = nI (S.2 0 0) := e_5.trans (hT.g1)
  refine lv_iconst (v := 1) hx hb dL_isMessage_6 (by decide) ?_
  refine lv_iadd hx hb dL_isMessage_7 ?_
  refine lv_topi (fun x_7 e_7 => ?_)
  obtain rfl : x_7 = nI ((S.2 0 0) + 1) := e_7.trans (nI_add (S.2 0 0) 1)
  refine lv_irem hx hb dL_isMessage_8 (nI_ne0 (by omega) (by omega)) ?_
  refine lv_topi (fun x_8 e_8 => ?_)
  obtain rfl : x_8 = nI uq := e_8.trans ((pk_rem (a := x1) (d := ((S.2 0 0) + 1)) (by omega) (by omega) (by omega)).trans (congrArg nI euq.symm))
  refine lv_istore (lv' := [(11, .int (nI uq)), (0, .ref (ad 0 0)), (1, .ref (ad 17 0)), (2, .ref (ad 17 1)), (3, .ref (ad 17 2)), (4, .ref (ad 17 3)), (5, .ref (ad 17 4)), (6, .ref (ad 17 8)), (7, .ref (ad 17 10)), (8, .int 1), (9, .int (nI x1)), (10, .int (nI x2))]) hx hb dL_isMessage_9 hl (by decide) rfl (fun ls hl => ?_)
  have M_25 : ∀ (H : Heap) (locs : List Loc), kX E G s H locs ad (cto G S T o ad) → W p l e (headSpec (Cond.code yL_isMessage cL_isMessage 19 (some .boolean) :: wsL_law) ({ frames := 18, cells := 20, slots := 400, locals := 500 } : Room)).room s m ([.ref (ad 0 0), .ref (ad 17 0), .ref (ad 17 1), .ref (ad 17 2), .ref (ad 17 3), .ref (ad 17 4), .ref (ad 17 8), .ref (ad 17 10), .int 1, .int (nI x1), .int (nI x2)] : List Value).toArray below meth c H locs 0 0 (vx_MQ below (kQi E G (fun r ad1 ct1 => (r = 1 ∧ AK ad ad1) ∧ ∃ S1 A1, ct1 = cto G S1 A1 o ad1 ∧ Mid (n9 + 1) S1 A1)) (kXC E G (fun _ _ _ => False)) ([.ref (ad 0 0), .ref (ad 17 0), .ref (ad 17 1), .ref (ad 17 2), .ref (ad 17 3), .ref (ad 17 4), .ref (ad 17 8), .ref (ad 17 10), .int 1, .int (nI x1), .int (nI x2)] : List Value).toArray s 20 400 (kB E.heap.size)) (F0 m 25 ls [.int (bI (decide (uq < S.2 0 0)))]) := by
    intro H locs X
    refine lv_istore (lv' := [(12, .int (bI (decide (uq < S.2 0 0)))), (11, .int (nI uq)), (0, .ref (ad 0 0)), (1, .ref (ad 17 0)), (2, .ref (ad 17 1)), (3, .ref (ad 17 2)), (4, .ref (ad 17 3)), (5, .ref (ad 17 4)), (6, .ref (ad 17 8)), (7, .ref (ad 17 10)), (8, .int 1), (9, .int (nI x1)), (10, .int (nI x2))]) hx hb dL_isMessage_25 hl (by decide) rfl (fun ls hl => ?_)
    refine lv_iload hx hb dL_isMessage_27 (lv_at hl 10 rfl) ?_
    refine lv_if_ne (tgt := 265) hx hb dL_isMessage_29 (by decide) (fun c_29 => ?_) (fun c_29 => ?_)
    · refine W.widen (k := 0) (n := 0) (by omega) (by omega) ?_
      exact t_isMsg_e (w := 1) (by decide) hE hn9 hx1 hx2 hI huq Z hr hlocks _ _ _ X (lv_sub hl [2, 3, 4, 5, 6, 7, 8, 9, 10, 11, 12, 1, 0] rfl)
    · exact absurd c_29 (by decide)
  refine lv_iload hx hb dL_isMessage_11 (lv_at hl 0 rfl) ?_
  refine lv_aload hx hb dL_isMessage_13 (lv_at hl 8 rfl) ?_
  refine lv_iconst (v := 1) hx hb dL_isMessage_15 (by decide) ?_
  refine k_ild (ad := ad) (k := 17) (i := 10) Z X ct_17_10 (vp_in_nI (n := 1) (by first | assumption | omega) (by decide)) dL_isMessage_16 ?_
  refine lv_topi (fun x_16 e_16 => ?_)
  obtain rfl : x_16 = T.1 11 1 := e_16.trans (by first | (simp only [nI_clamp (show 1 < 2 ^ 31 by omega)]; done) | rfl | (simp only [nI_clamp (show 1 < 2 ^ 31 by omega)]; rfl) | (simp only [nI_clamp (show 1 < 2 ^ 31 by omega)]; simp [sI, sN]; done))
  refine lv_topi (fun x_16 e_16 => ?_)
  obtain rfl : x_16 = nI (S.2 0 0) := e_16.trans (hT.g1)
  refine lv_icmp_ge (tgt := 24) hx hb dL_isMessage_17 (by decide) (fun c_17 => ?_) (fun c_17 => ?_)
  · have c_17 : S.2 0 0 ≤ uq := (nI_leI (a := S.2 0 0) (b := uq) (by omega) (by omega)).mp c_17
    refine lv_iconst (v := 0) hx hb dL_isMessage_24 (by decide) ?_
    exact W.eq (congrArg (fun z => F0 m 25 ls (.int z :: [])) (bI_f (decide_eq_false (by omega)))) (M_25 _ _ X)
  · have c_17 : ¬ S.2 0 0 ≤ uq := fun h => c_17 ((nI_leI (a := S.2 0 0) (b := uq) (by omega) (by omega)).mpr h)
    refine lv_iconst (v := 1) hx hb dL_isMessage_20 (by decide) ?_
    refine lv_goto (tgt := 25) hx hb dL_isMessage_21 (by decide) ?_
    exact W.eq (congrArg (fun z => F0 m 25 ls (.int z :: [])) (bI_t (decide_eq_true (by omega)))) (M_25 _ _ X)
set_option maxHeartbeats 4000000 in
set_option maxRecDepth 100000 in
theorem c_L_isMessage_3 (l : Launch) (E : State) (G : kG) (S T : kSt) (o : Int64) (ad : kAd) {n9 x1 x2 : Nat} (hE : kE l E G) (hn9 : n9 ≤ 90) (hx1 : x1 < 60000) (hx2 : x2 < 60000) (hI : Iv n9 S T) : vx_Met l yL_isMessage (.code yL_isMessage cL_isMessage 19 (some .boolean) :: wsL_law) ({ frames := 18, cells := 20, slots := 400, locals := 500 } : Room) (va_Pc [.ref (ad 0 0), .ref (ad 17 0), .ref (ad 17 1), .ref (ad 17 2), .ref (ad 17 3), .ref (ad 17 4), .ref (ad 17 8), .ref (ad 17 10), .int 3, .int (nI x1), .int (nI x2)] (kPre E G ad (cto G S T o ad))) (kQi E G (fun r ad1 ct1 => (r = 1 ∧ AK ad ad1) ∧ ∃ S1 A1, ct1 = cto G S1 A1 o ad1 ∧ Mid (n9 + 1) S1 A1)) (kXC E G (fun _ _ _ => False)) 20 400 (kB E.heap.size) := by
  refine vx_ofW (cc := cL_isMessage) (maxL := 19) (ret := (some .boolean)) (by decide) rfl ?_
  intro p e s m args below meth c s₁ B hml hout hv
  obtain ⟨rfl, hM, hK, hW0⟩ := hv
  have hlocks := B.notSynchronized
  have hr := B.returns
  have Z : kZ p m c cL_isMessage 19 s _ wsL_law RL E G := ⟨⟨B.exec, B.bytes, hml, findClass_of_methodNamed B.named, fun w h => atoms_spec (ws := .code yL_isMessage cL_isMessage 19 (some .boolean) :: wsL_law) B.pre w (List.mem_cons_of_mem _ h)⟩, hM, hK⟩
  have hx := Z.1.1
  have hb := Z.1.2.1
  have X := kX.of hW0
  have hl := lv_entry ([.ref (ad 0 0), .ref (ad 17 0), .ref (ad 17 1), .ref (ad 17 2), .ref (ad 17 3), .ref (ad 17 4), .ref (ad 17 8), .ref (ad 17 10), .int 3, .int (nI x1), .int (nI x2)]) (n := 19) (Nat.le_of_ble_eq_true rfl)
  rw [lg_entry_eq]
  generalize (lg_sl ([.ref (ad 0 0), .ref (ad 17 0), .ref (ad 17 1), .ref (ad 17 2), .ref (ad 17 3), .ref (ad 17 4), .ref (ad 17 8), .ref (ad 17 10), .int 3, .int (nI x1), .int (nI x2)]) ++ List.replicate (19 - (lg_sl ([.ref (ad 0 0), .ref (ad 17 0), .ref (ad 17 1), .ref (ad 17 2), .ref (ad 17 3), .ref (ad 17 4), .ref (ad 17 8), .ref (ad 17 10), .int 3, .int (nI x1), .int (nI x2)])).length) Slot.unset).toArray = ls at hl ⊢
  have hl : lv_has ls 19 [(0, .ref (ad 0 0)), (1, .ref (ad 17 0)), (2, .ref (ad 17 1)), (3, .ref (ad 17 2)), (4, .ref (ad 17 3)), (5, .ref (ad 17 4)), (6, .ref (ad 17 8)), (7, .ref (ad 17 10)), (8, .int 3), (9, .int (nI x1)), (10, .int (nI x2))] := hl
  have hT := hI.lt
  obtain ⟨hS, hL, hK9, hLg, hRp, hlog9, hB⟩ := hI.1.ok
  have hN := hS
  have hlog : S.2 0 4 < 512 := by omega
  obtain ⟨hc0, hc1, hc2, hc3⟩ := hT.c
  obtain ⟨uq, euq⟩ : ∃ y, y = x1 % (S.2 0 0 + 1) := ⟨_, rfl⟩
  have huq : uq ≤ S.2 0 0 := by rw [euq]; exact Nat.le_of_lt_succ (Nat.mod_lt _ (by omega))
  refine lv_iload hx hb dL_isMessage_0 (lv_at hl 9 rfl) ?_
  refine lv_aload hx hb dL_isMessage_2 (lv_at hl 7 rfl) ?_
  refine lv_iconst (v := 1) hx hb dL_isMessage_4 (by decide) ?_
  refine k_ild (ad := ad) (k := 17) (i := 10) Z X ct_17_10 (vp_in_nI (n := 1) (by first | assumption | omega) (by decide)) dL_isMessage_5 ?_
  refine lv_topi (fun x_5 e_5 => ?_)
  obtain rfl : x_5 = T.1 11 1 := e_5.trans (by first | (simp only [nI_clamp (show 1 < 2 ^ 31 by omega)]; done) | rfl | (simp only [nI_clamp (show 1 < 2 ^ 31 by omega)]; rfl) | (simp only [nI_clamp (show 1 < 2 ^ 31 by omega)]; simp [sI, sN]; done))
  refine lv_topi (fun x_5 e_5 => ?_)
  obtain rfl : x_5 = nI (S.2 0 0) := e_5.trans (hT.g1)
  refine lv_iconst (v := 1) hx hb dL_isMessage_6 (by decide) ?_
  refine lv_iadd hx hb dL_isMessage_7 ?_
  refine lv_topi (fun x_7 e_7 => ?_)
  obtain rfl : x_7 = nI ((S.2 0 0) + 1) := e_7.trans (nI_add (S.2 0 0) 1)
  refine lv_irem hx hb dL_isMessage_8 (nI_ne0 (by omega) (by omega)) ?_
  refine lv_topi (fun x_8 e_8 => ?_)
  obtain rfl : x_8 = nI uq := e_8.trans ((pk_rem (a := x1) (d := ((S.2 0 0) + 1)) (by omega) (by omega) (by omega)).trans (congrArg nI euq.symm))
  refine lv_istore (lv' := [(11, .int (nI uq)), (0, .ref (ad 0 0)), (1, .ref (ad 17 0)), (2, .ref (ad 17 1)), (3, .ref (ad 17 2)), (4, .ref (ad 17 3)), (5, .ref (ad 17 4)), (6, .ref (ad 17 8)), (7, .ref (ad 17 10)), (8, .int 3), (9, .int (nI x1)), (10, .int (nI x2))]) hx hb dL_isMessage_9 hl (by decide) rfl (fun ls hl => ?_)
  have M_25 : ∀ (H : Heap) (locs : List Loc), kX E G s H locs ad (cto G S T o ad) → W p l e (headSpec (Cond.code yL_isMessage cL_isMessage 19 (some .boolean) :: wsL_law) ({ frames := 18, cells := 20, slots := 400, locals := 500 } : Room)).room s m ([.ref (ad 0 0), .ref (ad 17 0), .ref (ad 17 1), .ref (ad 17 2), .ref (ad 17 3), .ref (ad 17 4), .ref (ad 17 8), .ref (ad 17 10), .int 3, .int (nI x1), .int (nI x2)] : List Value).toArray below meth c H locs 0 0 (vx_MQ below (kQi E G (fun r ad1 ct1 => (r = 1 ∧ AK ad ad1) ∧ ∃ S1 A1, ct1 = cto G S1 A1 o ad1 ∧ Mid (n9 + 1) S1 A1)) (kXC E G (fun _ _ _ => False)) ([.ref (ad 0 0), .ref (ad 17 0), .ref (ad 17 1), .ref (ad 17 2), .ref (ad 17 3), .ref (ad 17 4), .ref (ad 17 8), .ref (ad 17 10), .int 3, .int (nI x1), .int (nI x2)] : List Value).toArray s 20 400 (kB E.heap.size)) (F0 m 25 ls [.int (bI (decide (uq < S.2 0 0)))]) := by
    intro H locs X
    refine lv_istore (lv' := [(12, .int (bI (decide (uq < S.2 0 0)))), (11, .int (nI uq)), (0, .ref (ad 0 0)), (1, .ref (ad 17 0)), (2, .ref (ad 17 1)), (3, .ref (ad 17 2)), (4, .ref (ad 17 3)), (5, .ref (ad 17 4)), (6, .ref (ad 17 8)), (7, .ref (ad 17 10)), (8, .int 3), (9, .int (nI x1)), (10, .int (nI x2))]) hx hb dL_isMessage_25 hl (by decide) rfl (fun ls hl => ?_)
    refine lv_iload hx hb dL_isMessage_27 (lv_at hl 10 rfl) ?_
    refine lv_if_ne (tgt := 265) hx hb dL_isMessage_29 (by decide) (fun c_29 => ?_) (fun c_29 => ?_)
    · refine W.widen (k := 0) (n := 0) (by omega) (by omega) ?_
      exact t_isMsg_m hE hn9 hx1 hx2 hI huq Z hr hlocks _ _ _ X (lv_sub hl [2, 3, 4, 5, 6, 7, 8, 9, 10, 11, 12, 1, 0] rfl)
    · exact absurd c_29 (by decide)
  refine lv_iload hx hb dL_isMessage_11 (lv_at hl 0 rfl) ?_
  refine lv_aload hx hb dL_isMessage_13 (lv_at hl 8 rfl) ?_
  refine lv_iconst (v := 1) hx hb dL_isMessage_15 (by decide) ?_
  refine k_ild (ad := ad) (k := 17) (i := 10) Z X ct_17_10 (vp_in_nI (n := 1) (by first | assumption | omega) (by decide)) dL_isMessage_16 ?_
  refine lv_topi (fun x_16 e_16 => ?_)
  obtain rfl : x_16 = T.1 11 1 := e_16.trans (by first | (simp only [nI_clamp (show 1 < 2 ^ 31 by omega)]; done) | rfl | (simp only [nI_clamp (show 1 < 2 ^ 31 by omega)]; rfl) | (simp only [nI_clamp (show 1 < 2 ^ 31 by omega)]; simp [sI, sN]; done))
  refine lv_topi (fun x_16 e_16 => ?_)
  obtain rfl : x_16 = nI (S.2 0 0) := e_16.trans (hT.g1)
  refine lv_icmp_ge (tgt := 24) hx hb dL_isMessage_17 (by decide) (fun c_17 => ?_) (fun c_17 => ?_)
  · have c_17 : S.2 0 0 ≤ uq := (nI_leI (a := S.2 0 0) (b := uq) (by omega) (by omega)).mp c_17
    refine lv_iconst (v := 0) hx hb dL_isMessage_24 (by decide) ?_
    exact W.eq (congrArg (fun z => F0 m 25 ls (.int z :: [])) (bI_f (decide_eq_false (by omega)))) (M_25 _ _ X)
  · have c_17 : ¬ S.2 0 0 ≤ uq := fun h => c_17 ((nI_leI (a := S.2 0 0) (b := uq) (by omega) (by omega)).mpr h)
    refine lv_iconst (v := 1) hx hb dL_isMessage_20 (by decide) ?_
    refine lv_goto (tgt := 25) hx hb dL_isMessage_21 (by decide) ?_
    exact W.eq (congrArg (fun z => F0 m 25 ls (.int z :: [])) (bI_t (decide_eq_true (by omega)))) (M_25 _ _ X)
