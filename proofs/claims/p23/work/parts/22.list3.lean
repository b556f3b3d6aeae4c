/-! GROWING and ADDING -/
theorem fill_s (f : Nat → Int32) (v : Int32) (j : Nat) : upd (fun q => if q < j then v else f q) j v = fun q => if q < j + 1 then v else f q := by
  funext q
  simp only [upd]
  by_cases h : q = j
  · rw [if_pos h, if_pos (by omega)]
  · rw [if_neg h]
    by_cases h2 : q < j
    · rw [if_pos h2, if_pos (by omega)]
    · rw [if_neg h2, if_neg (by omega)]
theorem dJx4a65c_grow_92f84_0 : decode cJx4a65c_grow_92f84 0 = .ok (.aload_n 0, 1) := by decide +kernel
theorem dJx4a65c_grow_92f84_1 : decode cJx4a65c_grow_92f84 1 = .ok (.getfield 9, 3) := by decide +kernel
theorem dJx4a65c_grow_92f84_4 : decode cJx4a65c_grow_92f84 4 = .ok (.arraylength, 1) := by decide +kernel
theorem dJx4a65c_grow_92f84_5 : decode cJx4a65c_grow_92f84 5 = .ok (.istore_n 2, 1) := by decide +kernel
theorem dJx4a65c_grow_92f84_6 : decode cJx4a65c_grow_92f84 6 = .ok (.iload_n 2, 1) := by decide +kernel
theorem dJx4a65c_grow_92f84_7 : decode cJx4a65c_grow_92f84 7 = .ok (.ifCond .gt 13, 3) := by decide +kernel
theorem dJx4a65c_grow_92f84_10 : decode cJx4a65c_grow_92f84 10 = .ok (.aload_n 0, 1) := by decide +kernel
theorem dJx4a65c_grow_92f84_11 : decode cJx4a65c_grow_92f84 11 = .ok (.getfield 9, 3) := by decide +kernel
theorem dJx4a65c_grow_92f84_14 : decode cJx4a65c_grow_92f84 14 = .ok (.getstatic 39, 3) := by decide +kernel
theorem dJx4a65c_grow_92f84_17 : decode cJx4a65c_grow_92f84 17 = .ok (.if_acmp .eq 28, 3) := by decide +kernel
theorem dJx4a65c_grow_92f84_20 : decode cJx4a65c_grow_92f84 20 = .ok (.iload_n 2, 1) := by decide +kernel
theorem dJx4a65c_grow_92f84_21 : decode cJx4a65c_grow_92f84 21 = .ok (.iload_n 1, 1) := by decide +kernel
theorem dJx4a65c_grow_92f84_22 : decode cJx4a65c_grow_92f84 22 = .ok (.iload_n 2, 1) := by decide +kernel
theorem dJx4a65c_grow_92f84_23 : decode cJx4a65c_grow_92f84 23 = .ok (.isub, 1) := by decide +kernel
theorem dJx4a65c_grow_92f84_24 : decode cJx4a65c_grow_92f84 24 = .ok (.iload_n 2, 1) := by decide +kernel
theorem dJx4a65c_grow_92f84_25 : decode cJx4a65c_grow_92f84 25 = .ok (.iconst 1, 1) := by decide +kernel
theorem dJx4a65c_grow_92f84_26 : decode cJx4a65c_grow_92f84 26 = .ok (.ishr, 1) := by decide +kernel
theorem dJx4a65c_grow_92f84_27 : decode cJx4a65c_grow_92f84 27 = .ok (.invokestatic 73, 3) := by decide +kernel
theorem dJx4a65c_grow_92f84_30 : decode cJx4a65c_grow_92f84 30 = .ok (.istore_n 3, 1) := by decide +kernel
theorem dJx4a65c_grow_92f84_31 : decode cJx4a65c_grow_92f84 31 = .ok (.aload_n 0, 1) := by decide +kernel
theorem dJx4a65c_grow_92f84_32 : decode cJx4a65c_grow_92f84 32 = .ok (.aload_n 0, 1) := by decide +kernel
theorem dJx4a65c_grow_92f84_33 : decode cJx4a65c_grow_92f84 33 = .ok (.getfield 9, 3) := by decide +kernel
theorem dJx4a65c_grow_92f84_36 : decode cJx4a65c_grow_92f84 36 = .ok (.iload_n 3, 1) := by decide +kernel
theorem dJx4a65c_grow_92f84_37 : decode cJx4a65c_grow_92f84 37 = .ok (.invokestatic 66, 3) := by decide +kernel
theorem dJx4a65c_grow_92f84_40 : decode cJx4a65c_grow_92f84 40 = .ok (.dup_x1, 1) := by decide +kernel
theorem dJx4a65c_grow_92f84_41 : decode cJx4a65c_grow_92f84 41 = .ok (.putfield 9, 3) := by decide +kernel
theorem dJx4a65c_grow_92f84_44 : decode cJx4a65c_grow_92f84 44 = .ok (.areturn, 1) := by decide +kernel
theorem dJx4a65c_grow_92f84_45 : decode cJx4a65c_grow_92f84 45 = .ok (.aload_n 0, 1) := by decide +kernel
theorem dJx4a65c_grow_92f84_46 : decode cJx4a65c_grow_92f84 46 = .ok (.bipush 10, 2) := by decide +kernel
theorem dJx4a65c_grow_92f84_48 : decode cJx4a65c_grow_92f84 48 = .ok (.iload_n 1, 1) := by decide +kernel
theorem dJx4a65c_grow_92f84_49 : decode cJx4a65c_grow_92f84 49 = .ok (.invokestatic 79, 3) := by decide +kernel
theorem dJx4a65c_grow_92f84_52 : decode cJx4a65c_grow_92f84 52 = .ok (.anewarray 7, 3) := by decide +kernel
theorem dJx4a65c_grow_92f84_55 : decode cJx4a65c_grow_92f84 55 = .ok (.dup_x1, 1) := by decide +kernel
theorem dJx4a65c_grow_92f84_56 : decode cJx4a65c_grow_92f84 56 = .ok (.putfield 9, 3) := by decide +kernel
theorem dJx4a65c_grow_92f84_59 : decode cJx4a65c_grow_92f84 59 = .ok (.areturn, 1) := by decide +kernel
set_option maxHeartbeats 4000000 in
set_option maxRecDepth 100000 in
theorem c_Jx4a65c_grow_92f84_a (l : Launch) (E : State) (G : kG) (ad : kAd) (ct : kCt) (hE : kE l E G) (li n kk ci : Nat) (f : Nat → Option Nat) (r : vw_C) (mo : Value) (h0 : n = 0) (hc : ct 1 li = some (.inr (2, [mo, .ref G.2.2.2.2.2.2, .int (nI n)]))) : Met l yJx4a65c_grow_92f84 (.code yJx4a65c_grow_92f84 cJx4a65c_grow_92f84 4 (some (.array (.object "java/lang/Object"))) :: wsL_law) ({ frames := 6, cells := 1, slots := 120, locals := 260 } : Room) (va_Pc [.ref (ad 1 li), .int (nI (n + 1))] (kPre E G ad ct)) (kQq E G (fun rr ad1 ct1 => ∃ z cap1 : Nat, rr = some z ∧ n < cap1 ∧ 10 ≤ cap1 ∧ cap1 ≤ 120 ∧ ad1 = aup ad 2 li z ∧ ct1 = cup (cup ct 2 li (kOa G cap1 (kCut f n))) 1 li (.inr (2, [mo, .ref z, .int (nI n)])))) 1 120 (kB E.heap.size) := by
  refine Met.ofW (cc := cJx4a65c_grow_92f84) (maxL := 4) (ret := (some (.array (.object "java/lang/Object")))) (by decide) rfl ?_
  intro p e s m args below meth c s₁ B hml hv
  obtain ⟨rfl, hM, hK, hW0⟩ := hv
  have hlocks := B.notSynchronized
  have hr := B.returns
  have Z : kZ p m c cJx4a65c_grow_92f84 4 s _ wsL_law RJx4a65c E G := ⟨⟨B.exec, B.bytes, hml, findClass_of_methodNamed B.named, fun w h => atoms_spec (ws := .code yJx4a65c_grow_92f84 cJx4a65c_grow_92f84 4 (some (.array (.object "java/lang/Object"))) :: wsL_law) B.pre w (List.mem_cons_of_mem _ h)⟩, hM, hK⟩
  have hx := Z.1.1
  have hb := Z.1.2.1
  have X := kX.of hW0
  have hl := lv_entry ([.ref (ad 1 li), .int (nI (n + 1))]) (n := 4) (Nat.le_of_ble_eq_true rfl)
  rw [lg_entry_eq]
  generalize (lg_sl ([.ref (ad 1 li), .int (nI (n + 1))]) ++ List.replicate (4 - (lg_sl ([.ref (ad 1 li), .int (nI (n + 1))])).length) Slot.unset).toArray = ls at hl ⊢
  have hl : lv_has ls 4 [(0, .ref (ad 1 li)), (1, .int (nI (n + 1)))] := hl
  subst h0
  refine lv_aload_n hx hb dJx4a65c_grow_92f84_0 rfl (lv_at hl 0 rfl) ?_
  refine k_get (index := 9) (j := 1) (ad := ad) (k := 1) (i := li) Z X hc inlJx4a65c rfl (by decide) (inU_2 _ (List.mem_of_getElem? (i := 15) rfl)) (fun _ h => h) (v := .ref G.2.2.2.2.2.2) rfl dJx4a65c_grow_92f84_1 ?_
  refine va_tlen (v := nI 0) hx hb (Z.2.1.tb hE.2.2.2.2.1.2) X.2 rfl dJx4a65c_grow_92f84_4 ?_
  refine lv_istore_n (lv' := [(2, .int (nI 0)), (0, .ref (ad 1 li)), (1, .int (nI (0 + 1)))]) hx hb dJx4a65c_grow_92f84_5 rfl hl (by decide) rfl (fun ls hl => ?_)
  refine lv_iload_n hx hb dJx4a65c_grow_92f84_6 rfl (lv_at hl 0 rfl) ?_
  refine lv_if_gt (tgt := 20) hx hb dJx4a65c_grow_92f84_7 (by decide) (fun c_7 => ?_) (fun c_7 => ?_)
  · exact absurd c_7 (by decide)
  · refine lv_aload_n hx hb dJx4a65c_grow_92f84_10 rfl (lv_at hl 1 rfl) ?_
    refine k_get (index := 9) (j := 1) (ad := ad) (k := 1) (i := li) Z X hc inlJx4a65c rfl (by decide) (inU_2 _ (List.mem_of_getElem? (i := 15) rfl)) (fun _ h => h) (v := .ref G.2.2.2.2.2.2) rfl dJx4a65c_grow_92f84_11 ?_
    refine k_gets Z X hE.2.2.2.2.1.1 (inU_2 _ (List.mem_of_getElem? (i := 14) rfl)) (fun _ h => h) dJx4a65c_grow_92f84_14 ?_
    refine lv_acmp_eq (rx := some G.2.2.2.2.2.2) (ry := some G.2.2.2.2.2.2) (tgt := 45) hx hb dJx4a65c_grow_92f84_17 (by decide) (fun _ => ?_) (fun h => absurd rfl h)
    refine lv_aload_n hx hb dJx4a65c_grow_92f84_45 rfl (lv_at hl 1 rfl) ?_
    refine lv_bipush (v := 10) hx hb dJx4a65c_grow_92f84_46 (by decide) ?_
    refine lv_iload_n hx hb dJx4a65c_grow_92f84_48 rfl (lv_at hl 2 rfl) ?_
    refine va_mmax hx hb (Z.1.2.2.1.trans hl.1.symm) Z.1.2.2.2.1 (Z.1.2.2.2.2 _ (inU_4 _ (List.mem_of_getElem? (i := 2) rfl))) (Z.1.2.2.2.2 _ (inU_4 _ (List.mem_of_getElem? (i := 3) rfl))) (Z.1.2.2.2.2 _ (inU_4 _ (List.mem_of_getElem? (i := 4) rfl))) (Z.1.2.2.2.2 _ (inU_4 _ (List.mem_of_getElem? (i := 5) rfl))) (Nat.le_of_ble_eq_true rfl) (Nat.le_of_ble_eq_true rfl) (by show _ ≤ (_ : Nat); simp only [headSpec]; omega) (by show _ ≤ (_ : Nat); simp only [headSpec]; omega) dJx4a65c_grow_92f84_49 ?_
    refine lv_topi (fun x_49 e_49 => ?_)
    obtain rfl : x_49 = nI 10 := e_49.trans (by decide)
    refine k_newq 2 li (N' := 10) Z X (inU_4 _ (List.mem_of_getElem? (i := 6) rfl)) (hE.2.2.2.2.2.2.2.2.1.moved Z.2.1.1.alike) (nI_pos (by omega)) (nI_clamp (by omega)) (by omega) (by show _ ≤ (_ : Nat); simp only [headSpec]; omega) (by show _ ≤ (_ : Nat); simp only [headSpec]; omega) dJx4a65c_grow_92f84_52 (fun z H X => ?_)
    obtain ⟨adN, hadN⟩ : ∃ y, y = aup ad 2 li z := ⟨_, rfl⟩
    obtain ⟨ctN, hctN⟩ : ∃ y, y = cup ct 2 li (kOa G 10 (fun _ => none)) := ⟨_, rfl⟩
    rw [← hadN, ← hctN] at X
    have eN : adN 2 li = z := by rw [hadN]; exact aup_s
    subst eN
    have hN : ctN 2 li = some (kOa G 10 (fun _ => none)) := by rw [hctN]; exact cup_s
    have e0 : adN 1 li = ad 1 li := by rw [hadN]; exact aup_n (by simp)
    rw [← e0] at hl
    refine W.eq (congrArg (fun z => F0 m 55 ls [.ref (adN 2 li), .ref z]) e0.symm) ?_
    have hc : ctN 1 li = some (.inr (2, [mo, .ref G.2.2.2.2.2.2, .int (nI 0)])) := by rw [hctN]; exact (cup_n (by simp)).trans hc
    refine lv_dup_x1 hx hb dJx4a65c_grow_92f84_55 rfl rfl ?_
    refine k_put (index := 9) (j := 1) (k := 1) (i := li) Z X hc inlJx4a65c tyJx4a65c_ok nmJx4a65c rfl (by decide) (inU_2 _ (List.mem_of_getElem? (i := 15) rfl)) (fun _ h => h) rfl (Nat.le_of_ble_eq_true rfl) rfl rfl dJx4a65c_grow_92f84_56 (fun H locs X => ?_)
    exact k_aret (some (adN 2 li)) Z X hr hlocks (Or.inr ⟨_, rfl⟩) (by omega) (by omega) dJx4a65c_grow_92f84_59 ⟨_, 10, rfl, by omega, by omega, by omega, hadN, by rw [hctN]; rfl⟩
set_option maxHeartbeats 4000000 in
set_option maxRecDepth 100000 in
theorem c_Jx4a65c_grow_92f84_b (l : Launch) (E : State) (G : kG) (ad : kAd) (ct : kCt) (hE : kE l E G) (li n kk ci : Nat) (f : Nat → Option Nat) (r : vw_C) (mo : Value) (hcl : vwCl[ci]? = some r) (hcb : Cond.castable r.1 "java/lang/Object" ∈ kBW) (hc : ct 1 li = some (.inr (2, [mo, .ref (ad 2 li), .int (nI n)]))) (h2 : ct 2 li = some (kOa G n f)) (hn : 10 ≤ n) (hn2 : n < 80) (hkk : kk ≠ 1 ∧ kk ≠ 2 ∧ kk ≠ 98) (hel : kEl ad ct kk ci f) (h98 : ct 98 0 = none) : Met l yJx4a65c_grow_92f84 (.code yJx4a65c_grow_92f84 cJx4a65c_grow_92f84 4 (some (.array (.object "java/lang/Object"))) :: wsL_law) ({ frames := 6, cells := 1, slots := 120, locals := 260 } : Room) (va_Pc [.ref (ad 1 li), .int (nI (n + 1))] (kPre E G ad ct)) (kQq E G (fun rr ad1 ct1 => ∃ z cap1 : Nat, rr = some z ∧ n < cap1 ∧ 10 ≤ cap1 ∧ cap1 ≤ 120 ∧ ad1 = aup ad 2 li z ∧ ct1 = cup (cup ct 2 li (kOa G cap1 (kCut f n))) 1 li (.inr (2, [mo, .ref z, .int (nI n)])))) 1 120 (kB E.heap.size) := by
  refine Met.ofW (cc := cJx4a65c_grow_92f84) (maxL := 4) (ret := (some (.array (.object "java/lang/Object")))) (by decide) rfl ?_
  intro p e s m args below meth c s₁ B hml hv
  obtain ⟨rfl, hM, hK, hW0⟩ := hv
  have hlocks := B.notSynchronized
  have hr := B.returns
  have Z : kZ p m c cJx4a65c_grow_92f84 4 s _ wsL_law RJx4a65c E G := ⟨⟨B.exec, B.bytes, hml, findClass_of_methodNamed B.named, fun w h => atoms_spec (ws := .code yJx4a65c_grow_92f84 cJx4a65c_grow_92f84 4 (some (.array (.object "java/lang/Object"))) :: wsL_law) B.pre w (List.mem_cons_of_mem _ h)⟩, hM, hK⟩
  have hx := Z.1.1
  have hb := Z.1.2.1
  have X := kX.of hW0
  have hl := lv_entry ([.ref (ad 1 li), .int (nI (n + 1))]) (n := 4) (Nat.le_of_ble_eq_true rfl)
  rw [lg_entry_eq]
  generalize (lg_sl ([.ref (ad 1 li), .int (nI (n + 1))]) ++ List.replicate (4 - (lg_sl ([.ref (ad 1 li), .int (nI (n + 1))])).length) Slot.unset).toArray = ls at hl ⊢
  have hl : lv_has ls 4 [(0, .ref (ad 1 li)), (1, .int (nI (n + 1)))] := hl
  refine lv_aload_n hx hb dJx4a65c_grow_92f84_0 rfl (lv_at hl 0 rfl) ?_
  refine k_get (index := 9) (j := 1) (ad := ad) (k := 1) (i := li) Z X hc inlJx4a65c rfl (by decide) (inU_2 _ (List.mem_of_getElem? (i := 15) rfl)) (fun _ h => h) (v := .ref (ad 2 li)) rfl dJx4a65c_grow_92f84_1 ?_
  refine k_len (ad := ad) (k := 2) (i := li) (t0 := 3) (v := nI n) Z X h2 rfl rfl dJx4a65c_grow_92f84_4 ?_
  refine lv_istore_n (lv' := [(2, .int (nI n)), (0, .ref (ad 1 li)), (1, .int (nI (n + 1)))]) hx hb dJx4a65c_grow_92f84_5 rfl hl (by decide) rfl (fun ls hl => ?_)
  refine lv_iload_n hx hb dJx4a65c_grow_92f84_6 rfl (lv_at hl 0 rfl) ?_
  refine lv_if_gt (tgt := 20) hx hb dJx4a65c_grow_92f84_7 (by decide) (fun c_7 => ?_) (fun c_7 => ?_)
  · refine lv_iload_n hx hb dJx4a65c_grow_92f84_20 rfl (lv_at hl 0 rfl) ?_
    refine lv_iload_n hx hb dJx4a65c_grow_92f84_21 rfl (lv_at hl 2 rfl) ?_
    refine lv_iload_n hx hb dJx4a65c_grow_92f84_22 rfl (lv_at hl 0 rfl) ?_
    refine lv_isub hx hb dJx4a65c_grow_92f84_23 ?_
    refine lv_topi (fun x_23 e_23 => ?_)
    obtain rfl : x_23 = nI 1 := e_23.trans (by rw [pk_sub (by omega), Nat.add_sub_cancel_left])
    refine lv_iload_n hx hb dJx4a65c_grow_92f84_24 rfl (lv_at hl 0 rfl) ?_
    refine lv_iconst (v := 1) hx hb dJx4a65c_grow_92f84_25 (by decide) ?_
    refine lv_ishr hx hb dJx4a65c_grow_92f84_26 ?_
    refine lv_topi (fun x_26 e_26 => ?_)
    obtain rfl : x_26 = nI (n / 2) := e_26.trans (by have k := pk_shrN (n := n) (by omega) ((1 : Int32) &&& 31) 1 (by decide); rw [Nat.pow_one] at k; exact k)
    refine k_Ri X (k_runS (As := [.int (nI n), .int (nI 1), .int (nI (n / 2))]) (rest := []) Z X (c_J8_newLength_cabcc l E G ad ct n 1 (n / 2) (by omega) (by omega)) (k_cwS 3 Z.1.2.2.2.2 (inU_4 _ (List.mem_of_getElem? (i := 7) rfl)) (inU_4 _ (List.mem_of_getElem? (i := 8) rfl)) (inU_4 _ (List.mem_of_getElem? (i := 9) rfl)) (inU_4 _ (List.mem_of_getElem? (i := 10) rfl)) rfl rfl (by decide +kernel) ⟨Nat.le_of_ble_eq_true rfl, Nat.le_of_ble_eq_true rfl⟩) rfl hl.1 rfl (Nat.le_of_ble_eq_true rfl) dJx4a65c_grow_92f84_27 ⟨(by first | exact Nat.le_of_ble_eq_true rfl | (show _ ≤ (_ : Nat); simp only [headSpec]; omega)), (by first | exact Nat.le_of_ble_eq_true rfl | (show _ ≤ (_ : Nat); simp only [headSpec]; omega))⟩) (fun r_27 ad1 ct1 H locs hp X => ?_)
    obtain ⟨rfl, ha_, hb_⟩ := hp
    rw [← ha_, hb_] at X
    have hmx : max 1 (n / 2) = n / 2 := Nat.max_eq_right (by omega)
    obtain ⟨mi, hmi⟩ := hE.2.2.2.2.2.2.2.1
    refine lv_istore_n (lv' := [(3, .int (nI (n + max 1 (n / 2)))), (2, .int (nI n)), (0, .ref (ad 1 li)), (1, .int (nI (n + 1)))]) hx hb dJx4a65c_grow_92f84_30 rfl hl (by decide) rfl (fun ls hl => ?_)
    refine lv_aload_n hx hb dJx4a65c_grow_92f84_31 rfl (lv_at hl 2 rfl) ?_
    refine lv_aload_n hx hb dJx4a65c_grow_92f84_32 rfl (lv_at hl 2 rfl) ?_
    refine k_get (index := 9) (j := 1) (ad := ad) (k := 1) (i := li) Z X hc inlJx4a65c rfl (by decide) (inU_2 _ (List.mem_of_getElem? (i := 15) rfl)) (fun _ h => h) (v := .ref (ad 2 li)) rfl dJx4a65c_grow_92f84_33 ?_
    refine lv_iload_n hx hb dJx4a65c_grow_92f84_36 rfl (lv_at hl 0 rfl) ?_
    refine k_Rq X (k_runS (As := [.ref (ad 2 li), .int (nI (n + max 1 (n / 2)))]) (rest := [.ref (ad 1 li)]) Z X (c_J7_copyOf_1904c l E G ad ct hE 2 li n (n + max 1 (n / 2)) mi kk ci f r hcl hcb h2 (by decide) hkk.2.2 hel (by omega) (by omega) hmi) (k_cwS 2 Z.1.2.2.2.2 (inU_4 _ (List.mem_of_getElem? (i := 16) rfl)) (inU_4 _ (List.mem_of_getElem? (i := 17) rfl)) (inU_4 _ (List.mem_of_getElem? (i := 18) rfl)) (inU_4 _ (List.mem_of_getElem? (i := 19) rfl)) rfl rfl (by decide +kernel) ⟨Nat.le_of_ble_eq_true rfl, Nat.le_of_ble_eq_true rfl⟩) rfl hl.1 rfl (Nat.le_of_ble_eq_true rfl) dJx4a65c_grow_92f84_37 ⟨(by first | exact Nat.le_of_ble_eq_true rfl | (show _ ≤ (_ : Nat); simp only [headSpec]; omega)), (by first | exact Nat.le_of_ble_eq_true rfl | (show _ ≤ (_ : Nat); simp only [headSpec]; omega))⟩) (fun r_37 ad1 ct1 H locs hp X => ?_)
    obtain ⟨z, rfl, hp1, hp2⟩ := hp
    rw [hp1, hp2] at X
    have X := X.ren 2 li h98
    obtain ⟨adN, hadN⟩ : ∃ y, y = aup ad 2 li z := ⟨_, rfl⟩
    obtain ⟨ctN, hctN⟩ : ∃ y, y = cup ct 2 li (kOa G (n + max 1 (n / 2)) (kCut f n)) := ⟨_, rfl⟩
    rw [← hadN, ← hctN] at X
    have eN : adN 2 li = z := by rw [hadN]; exact aup_s
    have e0 : adN 1 li = ad 1 li := by rw [hadN]; exact aup_n (by simp)
    rw [← e0] at hl
    refine W.eq (congrArg (fun y => F0 m 40 ls [.ref z, .ref y]) e0.symm) ?_
    have hc : ctN 1 li = some (.inr (2, [mo, .ref (ad 2 li), .int (nI n)])) := by rw [hctN]; exact (cup_n (by simp)).trans hc
    refine lv_dup_x1 hx hb dJx4a65c_grow_92f84_40 rfl rfl ?_
    refine k_put (index := 9) (j := 1) (k := 1) (i := li) Z X hc inlJx4a65c tyJx4a65c_ok nmJx4a65c rfl (by decide) (inU_2 _ (List.mem_of_getElem? (i := 15) rfl)) (fun _ h => h) rfl (Nat.le_of_ble_eq_true rfl) rfl rfl dJx4a65c_grow_92f84_41 (fun H locs X => ?_)
    exact k_aret (some z) Z X hr hlocks (Or.inr ⟨_, rfl⟩) (by omega) (by omega) dJx4a65c_grow_92f84_44 ⟨z, n + max 1 (n / 2), rfl, by omega, by omega, by omega, hadN, by rw [hctN]; rfl⟩
  · exact absurd ((nI_ltI (a := 0) (b := n) (by omega) (by omega)).mpr (by omega)) c_7
set_option maxHeartbeats 4000000 in
set_option maxRecDepth 100000 in
theorem c_Jx4a65c_grow_92f84 (l : Launch) (E : State) (G : kG) (ad : kAd) (ct : kCt) (hE : kE l E G) (li n kk ci : Nat) (f : Nat → Option Nat) (r : vw_C) (mo : Value) (dq : Nat) (hcl : vwCl[ci]? = some r) (hcb : Cond.castable r.1 "java/lang/Object" ∈ kBW) (hc : ct 1 li = some (.inr (2, [mo, .ref dq, .int (nI n)]))) (hd : (n = 0 ∧ dq = G.2.2.2.2.2.2) ∨ (dq = ad 2 li ∧ 10 ≤ n ∧ ct 2 li = some (kOa G n f))) (hn2 : n < 80) (hkk : kk ≠ 1 ∧ kk ≠ 2 ∧ kk ≠ 98) (hel : kEl ad ct kk ci f) (h98 : ct 98 0 = none) : Met l yJx4a65c_grow_92f84 (.code yJx4a65c_grow_92f84 cJx4a65c_grow_92f84 4 (some (.array (.object "java/lang/Object"))) :: wsL_law) ({ frames := 6, cells := 1, slots := 120, locals := 260 } : Room) (va_Pc [.ref (ad 1 li), .int (nI (n + 1))] (kPre E G ad ct)) (kQq E G (fun rr ad1 ct1 => ∃ z cap1 : Nat, rr = some z ∧ n < cap1 ∧ 10 ≤ cap1 ∧ cap1 ≤ 120 ∧ ad1 = aup ad 2 li z ∧ ct1 = cup (cup ct 2 li (kOa G cap1 (kCut f n))) 1 li (.inr (2, [mo, .ref z, .int (nI n)])))) 1 120 (kB E.heap.size) := by
  rcases hd with ⟨h0, rfl⟩ | ⟨rfl, hn, h2⟩
  · exact c_Jx4a65c_grow_92f84_a l E G ad ct hE li n kk ci f r mo h0 hc
  · exact c_Jx4a65c_grow_92f84_b l E G ad ct hE li n kk ci f r mo hcl hcb hc h2 hn hn2 hkk hel h98
theorem dJx4a65c_grow_d5877_0 : decode cJx4a65c_grow_d5877 0 = .ok (.aload_n 0, 1) := by decide +kernel
theorem dJx4a65c_grow_d5877_1 : decode cJx4a65c_grow_d5877 1 = .ok (.aload_n 0, 1) := by decide +kernel
theorem dJx4a65c_grow_d5877_2 : decode cJx4a65c_grow_d5877 2 = .ok (.getfield 48, 3) := by decide +kernel
theorem dJx4a65c_grow_d5877_5 : decode cJx4a65c_grow_d5877 5 = .ok (.iconst 1, 1) := by decide +kernel
theorem dJx4a65c_grow_d5877_6 : decode cJx4a65c_grow_d5877 6 = .ok (.iadd, 1) := by decide +kernel
theorem dJx4a65c_grow_d5877_7 : decode cJx4a65c_grow_d5877 7 = .ok (.invokevirtual 69, 3) := by decide +kernel
theorem dJx4a65c_grow_d5877_10 : decode cJx4a65c_grow_d5877 10 = .ok (.areturn, 1) := by decide +kernel
set_option maxHeartbeats 4000000 in
set_option maxRecDepth 100000 in
theorem c_Jx4a65c_grow_d5877 (l : Launch) (E : State) (G : kG) (ad : kAd) (ct : kCt) (hE : kE l E G) (li n kk ci : Nat) (f : Nat → Option Nat) (r : vw_C) (mo : Value) (dq : Nat) (hcl : vwCl[ci]? = some r) (hcb : Cond.castable r.1 "java/lang/Object" ∈ kBW) (hc : ct 1 li = some (.inr (2, [mo, .ref dq, .int (nI n)]))) (hd : (n = 0 ∧ dq = G.2.2.2.2.2.2) ∨ (dq = ad 2 li ∧ 10 ≤ n ∧ ct 2 li = some (kOa G n f))) (hn2 : n < 80) (hkk : kk ≠ 1 ∧ kk ≠ 2 ∧ kk ≠ 98) (hel : kEl ad ct kk ci f) (h98 : ct 98 0 = none) : Met l yJx4a65c_grow_d5877 (.code yJx4a65c_grow_d5877 cJx4a65c_grow_d5877 1 (some (.array (.object "java/lang/Object"))) :: wsL_law) ({ frames := 7, cells := 1, slots := 120, locals := 290 } : Room) (va_Pc [.ref (ad 1 li)] (kPre E G ad ct)) (kQq E G (fun rr ad1 ct1 => ∃ z cap1 : Nat, rr = some z ∧ n < cap1 ∧ 10 ≤ cap1 ∧ cap1 ≤ 120 ∧ ad1 = aup ad 2 li z ∧ ct1 = cup (cup ct 2 li (kOa G cap1 (kCut f n))) 1 li (.inr (2, [mo, .ref z, .int (nI n)])))) 1 120 (kB E.heap.size) := by
  refine Met.ofW (cc := cJx4a65c_grow_d5877) (maxL := 1) (ret := (some (.array (.object "java/lang/Object")))) (by decide) rfl ?_
  intro p e s m args below meth c s₁ B hml hv
  obtain ⟨rfl, hM, hK, hW0⟩ := hv
  have hlocks := B.notSynchronized
  have hr := B.returns
  have Z : kZ p m c cJx4a65c_grow_d5877 1 s _ wsL_law RJx4a65c E G := ⟨⟨B.exec, B.bytes, hml, findClass_of_methodNamed B.named, fun w h => atoms_spec (ws := .code yJx4a65c_grow_d5877 cJx4a65c_grow_d5877 1 (some (.array (.object "java/lang/Object"))) :: wsL_law) B.pre w (List.mem_cons_of_mem _ h)⟩, hM, hK⟩
  have hx := Z.1.1
  have hb := Z.1.2.1
  have X := kX.of hW0
  have hl := lv_entry ([.ref (ad 1 li)]) (n := 1) (Nat.le_of_ble_eq_true rfl)
  rw [lg_entry_eq]
  generalize (lg_sl ([.ref (ad 1 li)]) ++ List.replicate (1 - (lg_sl ([.ref (ad 1 li)])).length) Slot.unset).toArray = ls at hl ⊢
  have hl : lv_has ls 1 [(0, .ref (ad 1 li))] := hl
  refine lv_aload_n hx hb dJx4a65c_grow_d5877_0 rfl (lv_at hl 0 rfl) ?_
  refine lv_aload_n hx hb dJx4a65c_grow_d5877_1 rfl (lv_at hl 0 rfl) ?_
  refine k_get (index := 48) (j := 2) (ad := ad) (k := 1) (i := li) Z X hc inlJx4a65c rfl (by decide) (inU_3 _ (List.mem_of_getElem? (i := 13) rfl)) (fun _ h => h) (v := .int (nI n)) rfl dJx4a65c_grow_d5877_2 ?_
  refine lv_iconst (v := 1) hx hb dJx4a65c_grow_d5877_5 (by decide) ?_
  refine lv_iadd hx hb dJx4a65c_grow_d5877_6 ?_
  refine lv_topi (fun x_6 e_6 => ?_)
  obtain rfl : x_6 = nI (n + 1) := e_6.trans (nI_1 _)
  refine k_Rq X (k_runV (As := [.int (nI (n + 1))]) (rest := []) Z X (c_Jx4a65c_grow_92f84 l E G ad ct hE li n kk ci f r mo dq hcl hcb hc hd hn2 hkk hel h98) (k_cwV 1 Z.1.2.2.2.2 (inU_3 _ (List.mem_of_getElem? (i := 22) rfl)) (inU_3 _ (List.mem_of_getElem? (i := 23) rfl)) (inU_4 _ (List.mem_of_getElem? (i := 0) rfl)) (inU_1 _ (List.mem_of_getElem? (i := 17) rfl)) (inU_4 _ (List.mem_of_getElem? (i := 1) rfl)) rfl rfl (by decide +kernel) ⟨Nat.le_of_ble_eq_true rfl, Nat.le_of_ble_eq_true rfl⟩) (k_recv Z X hc rfl) rfl hl.1 rfl (Nat.le_of_ble_eq_true rfl) dJx4a65c_grow_d5877_7 ⟨(by first | exact Nat.le_of_ble_eq_true rfl | (show _ ≤ (_ : Nat); simp only [headSpec]; omega)), (by first | exact Nat.le_of_ble_eq_true rfl | (show _ ≤ (_ : Nat); simp only [headSpec]; omega))⟩) (fun r_7 ad1 ct1 H locs hp X => ?_)
  obtain ⟨z, cap1, rfl, hp⟩ := hp
  exact k_aret (some z) Z X hr hlocks (Or.inr ⟨_, rfl⟩) (by omega) (by omega) dJx4a65c_grow_d5877_10 ⟨z, cap1, rfl, hp⟩
theorem dJx4a65c_add_72be8_0 : decode cJx4a65c_add_72be8 0 = .ok (.iload_n 3, 1) := by decide +kernel
theorem dJx4a65c_add_72be8_1 : decode cJx4a65c_add_72be8 1 = .ok (.aload_n 2, 1) := by decide +kernel
theorem dJx4a65c_add_72be8_2 : decode cJx4a65c_add_72be8 2 = .ok (.arraylength, 1) := by decide +kernel
theorem dJx4a65c_add_72be8_3 : decode cJx4a65c_add_72be8 3 = .ok (.if_icmp .ne 8, 3) := by decide +kernel
theorem dJx4a65c_add_72be8_6 : decode cJx4a65c_add_72be8 6 = .ok (.aload_n 0, 1) := by decide +kernel
theorem dJx4a65c_add_72be8_7 : decode cJx4a65c_add_72be8 7 = .ok (.invokevirtual 129, 3) := by decide +kernel
theorem dJx4a65c_add_72be8_10 : decode cJx4a65c_add_72be8 10 = .ok (.astore_n 2, 1) := by decide +kernel
theorem dJx4a65c_add_72be8_11 : decode cJx4a65c_add_72be8 11 = .ok (.aload_n 2, 1) := by decide +kernel
theorem dJx4a65c_add_72be8_12 : decode cJx4a65c_add_72be8 12 = .ok (.iload_n 3, 1) := by decide +kernel
theorem dJx4a65c_add_72be8_13 : decode cJx4a65c_add_72be8 13 = .ok (.aload_n 1, 1) := by decide +kernel
theorem dJx4a65c_add_72be8_14 : decode cJx4a65c_add_72be8 14 = .ok (.aastore, 1) := by decide +kernel
theorem dJx4a65c_add_72be8_15 : decode cJx4a65c_add_72be8 15 = .ok (.aload_n 0, 1) := by decide +kernel
theorem dJx4a65c_add_72be8_16 : decode cJx4a65c_add_72be8 16 = .ok (.iload_n 3, 1) := by decide +kernel
theorem dJx4a65c_add_72be8_17 : decode cJx4a65c_add_72be8 17 = .ok (.iconst 1, 1) := by decide +kernel
theorem dJx4a65c_add_72be8_18 : decode cJx4a65c_add_72be8 18 = .ok (.iadd, 1) := by decide +kernel
theorem dJx4a65c_add_72be8_19 : decode cJx4a65c_add_72be8 19 = .ok (.putfield 48, 3) := by decide +kernel
theorem dJx4a65c_add_72be8_22 : decode cJx4a65c_add_72be8 22 = .ok (.return_, 1) := by decide +kernel
set_option maxHeartbeats 4000000 in
set_option maxRecDepth 100000 in
theorem c_Jx4a65c_add_72be8_a (l : Launch) (E : State) (G : kG) (ad : kAd) (ct : kCt) (hE : kE l E G) (li n kk ci : Nat) (f : Nat → Option Nat) (r : vw_C) (mo : Value) (dq i2 : Nat) (vs : List Value) (hcl : vwCl[ci]? = some r) (hcb : Cond.castable r.1 "java/lang/Object" ∈ kBW) (hc : ct 1 li = some (.inr (2, [mo, .ref dq, .int (nI n)]))) (hv : ct kk i2 = some (.inr (ci, vs))) (hn2 : n < 80) (hkk : kk ≠ 1 ∧ kk ≠ 2 ∧ kk ≠ 98) (hel : kEl ad ct kk ci f) (h98 : ct 98 0 = none) (h0 : n = 0) (hdq : dq = G.2.2.2.2.2.2) : Met l yJx4a65c_add_72be8 (.code yJx4a65c_add_72be8 cJx4a65c_add_72be8 4 none :: wsL_law) ({ frames := 8, cells := 1, slots := 120, locals := 330 } : Room) (va_Pc [.ref (ad 1 li), .ref (ad kk i2), .ref dq, .int (nI n)] (kPre E G ad ct)) (kQv E G (fun ad1 ct1 => ∃ z cap1 : Nat, n < cap1 ∧ 10 ≤ cap1 ∧ cap1 ≤ 120 ∧ ad1 = aup ad 2 li z ∧ ct1 = cup (cup ct 2 li (kOa G cap1 (kUp f n (ad kk i2)))) 1 li (.inr (2, [mo, .ref z, .int (nI (n + 1))])))) 1 120 (kB E.heap.size) := by
  refine Met.ofW (cc := cJx4a65c_add_72be8) (maxL := 4) (ret := none) (by decide) rfl ?_
  intro p e s m args below meth c s₁ B hml hv
  obtain ⟨rfl, hM, hK, hW0⟩ := hv
  have hlocks := B.notSynchronized
  have hr := B.returns
  have Z : kZ p m c cJx4a65c_add_72be8 4 s _ wsL_law RJx4a65c E G := ⟨⟨B.exec, B.bytes, hml, findClass_of_methodNamed B.named, fun w h => atoms_spec (ws := .code yJx4a65c_add_72be8 cJx4a65c_add_72be8 4 none :: wsL_law) B.pre w (List.mem_cons_of_mem _ h)⟩, hM, hK⟩
  have hx := Z.1.1
  have hb := Z.1.2.1
  have X := kX.of hW0
  have hl := lv_entry ([.ref (ad 1 li), .ref (ad kk i2), .ref dq, .int (nI n)]) (n := 4) (Nat.le_of_ble_eq_true rfl)
  rw [lg_entry_eq]
  generalize (lg_sl ([.ref (ad 1 li), .ref (ad kk i2), .ref dq, .int (nI n)]) ++ List.replicate (4 - (lg_sl ([.ref (ad 1 li), .ref (ad kk i2), .ref dq, .int (nI n)])).length) Slot.unset).toArray = ls at hl ⊢
  have hl : lv_has ls 4 [(0, .ref (ad 1 li)), (1, .ref (ad kk i2)), (2, .ref dq), (3, .int (nI n))] := hl
  subst h0
  subst hdq
  refine lv_iload_n hx hb dJx4a65c_add_72be8_0 rfl (lv_at hl 3 rfl) ?_
  refine lv_aload_n hx hb dJx4a65c_add_72be8_1 rfl (lv_at hl 2 rfl) ?_
  refine va_tlen (v := nI 0) hx hb (Z.2.1.tb hE.2.2.2.2.1.2) X.2 rfl dJx4a65c_add_72be8_2 ?_
  refine lv_icmp_ne (tgt := 11) hx hb dJx4a65c_add_72be8_3 (by decide) (fun c_3 => ?_) (fun c_3 => ?_)
  · exact absurd rfl c_3
  · refine lv_aload_n hx hb dJx4a65c_add_72be8_6 rfl (lv_at hl 0 rfl) ?_
    refine k_Rq X (k_runV (As := []) (rest := []) Z X (c_Jx4a65c_grow_d5877 l E G ad ct hE li 0 kk ci f r mo G.2.2.2.2.2.2 hcl hcb hc (Or.inl ⟨rfl, rfl⟩) hn2 hkk hel h98) (k_cwV 0 Z.1.2.2.2.2 (inU_3 _ (List.mem_of_getElem? (i := 18) rfl)) (inU_3 _ (List.mem_of_getElem? (i := 19) rfl)) (inU_3 _ (List.mem_of_getElem? (i := 20) rfl)) (inU_1 _ (List.mem_of_getElem? (i := 17) rfl)) (inU_3 _ (List.mem_of_getElem? (i := 21) rfl)) rfl rfl (by decide +kernel) ⟨Nat.le_of_ble_eq_true rfl, Nat.le_of_ble_eq_true rfl⟩) (k_recv Z X hc rfl) rfl hl.1 rfl (Nat.le_of_ble_eq_true rfl) dJx4a65c_add_72be8_7 ⟨(by first | exact Nat.le_of_ble_eq_true rfl | (show _ ≤ (_ : Nat); simp only [headSpec]; omega)), (by first | exact Nat.le_of_ble_eq_true rfl | (show _ ≤ (_ : Nat); simp only [headSpec]; omega))⟩) (fun r_7 ad1 ct1 H locs hp X => ?_)
    obtain ⟨z, cap1, rfl, hc1, hc2, hc3, hp1, hp2⟩ := hp
    obtain ⟨adN, hadN⟩ : ∃ y, y = aup ad 2 li z := ⟨_, rfl⟩
    obtain ⟨ctN, hctN⟩ : ∃ y, y = cup (cup ct 2 li (kOa G cap1 (kCut f 0))) 1 li (.inr (2, [mo, .ref z, .int (nI 0)])) := ⟨_, rfl⟩
    rw [hp1, hp2, ← hadN, ← hctN] at X
    have eN : adN 2 li = z := by rw [hadN]; exact aup_s
    subst eN
    have e0 : adN 1 li = ad 1 li := by rw [hadN]; exact aup_n (by simp)
    have e1 : adN kk i2 = ad kk i2 := by rw [hadN]; exact aup_n (fun z => hkk.2.1 z.1)
    rw [← e0, ← e1] at hl
    have h2 : ctN 2 li = some (kOa G cap1 (kCut f 0)) := by rw [hctN]; exact (cup_n (by simp)).trans cup_s
    have hc : ctN 1 li = some (.inr (2, [mo, .ref (adN 2 li), .int (nI 0)])) := by rw [hctN]; exact cup_s
    have hv : ctN kk i2 = some (.inr (ci, vs)) := by rw [hctN]; exact (cup_n (fun z => hkk.1 z.1)).trans ((cup_n (fun z => hkk.2.1 z.1)).trans hv)
    refine lv_astore_n (lv' := [(2, .ref (adN 2 li)), (0, .ref (adN 1 li)), (1, .ref (adN kk i2)), (3, .int (nI 0))]) hx hb dJx4a65c_add_72be8_10 rfl hl (by decide) rfl (fun ls hl => ?_)
    refine lv_aload_n hx hb dJx4a65c_add_72be8_11 rfl (lv_at hl 0 rfl) ?_
    refine lv_iload_n hx hb dJx4a65c_add_72be8_12 rfl (lv_at hl 3 rfl) ?_
    refine lv_aload_n hx hb dJx4a65c_add_72be8_13 rfl (lv_at hl 2 rfl) ?_
    refine k_ast Z X h2 (hE.word Z.2.1 hcb) hv hcl (vp_in_nI (by omega) (by omega)) dJx4a65c_add_72be8_14 (fun H locs X => ?_)
    rw [show (nI 0).toNatClampNeg = 0 from nI_clamp (by omega)] at X
    have hc : cup ctN 2 li (kOa G cap1 (va_up (kCut f 0) 0 (some (adN kk i2)))) 1 li = some (.inr (2, [mo, .ref (adN 2 li), .int (nI 0)])) := (cup_n (by simp)).trans hc
    refine lv_aload_n hx hb dJx4a65c_add_72be8_15 rfl (lv_at hl 1 rfl) ?_
    refine lv_iload_n hx hb dJx4a65c_add_72be8_16 rfl (lv_at hl 3 rfl) ?_
    refine lv_iconst (v := 1) hx hb dJx4a65c_add_72be8_17 (by decide) ?_
    refine lv_iadd hx hb dJx4a65c_add_72be8_18 ?_
    refine lv_topi (fun x_18 e_18 => ?_)
    obtain rfl : x_18 = nI (0 + 1) := e_18.trans (nI_1 _)
    refine k_put (index := 48) (j := 2) (k := 1) (i := li) Z X hc inlJx4a65c tyJx4a65c_ok nmJx4a65c rfl (by decide) (inU_3 _ (List.mem_of_getElem? (i := 13) rfl)) (fun _ h => h) rfl (Nat.le_of_ble_eq_true rfl) rfl rfl dJx4a65c_add_72be8_19 (fun H locs X => ?_)
    exact k_vret Z X hr hlocks (by omega) (by omega) dJx4a65c_add_72be8_22 ⟨_, cap1, hc1, hc2, hc3, hadN, by rw [← kUp_1, ← e1, hctN]; exact cup_4⟩
set_option maxHeartbeats 4000000 in
set_option maxRecDepth 100000 in
theorem c_Jx4a65c_add_72be8_b (l : Launch) (E : State) (G : kG) (ad : kAd) (ct : kCt) (hE : kE l E G) (li n kk ci : Nat) (f : Nat → Option Nat) (r : vw_C) (mo : Value) (dq i2 : Nat) (vs : List Value) (hcl : vwCl[ci]? = some r) (hcb : Cond.castable r.1 "java/lang/Object" ∈ kBW) (hc : ct 1 li = some (.inr (2, [mo, .ref dq, .int (nI n)]))) (hv : ct kk i2 = some (.inr (ci, vs))) (hn2 : n < 80) (hkk : kk ≠ 1 ∧ kk ≠ 2 ∧ kk ≠ 98) (hel : kEl ad ct kk ci f) (h98 : ct 98 0 = none) (hdq : dq = ad 2 li) (hn10 : 10 ≤ n) (h2 : ct 2 li = some (kOa G n f)) : Met l yJx4a65c_add_72be8 (.code yJx4a65c_add_72be8 cJx4a65c_add_72be8 4 none :: wsL_law) ({ frames := 8, cells := 1, slots := 120, locals := 330 } : Room) (va_Pc [.ref (ad 1 li), .ref (ad kk i2), .ref dq, .int (nI n)] (kPre E G ad ct)) (kQv E G (fun ad1 ct1 => ∃ z cap1 : Nat, n < cap1 ∧ 10 ≤ cap1 ∧ cap1 ≤ 120 ∧ ad1 = aup ad 2 li z ∧ ct1 = cup (cup ct 2 li (kOa G cap1 (kUp f n (ad kk i2)))) 1 li (.inr (2, [mo, .ref z, .int (nI (n + 1))])))) 1 120 (kB E.heap.size) := by
  refine Met.ofW (cc := cJx4a65c_add_72be8) (maxL := 4) (ret := none) (by decide) rfl ?_
  intro p e s m args below meth c s₁ B hml hv
  obtain ⟨rfl, hM, hK, hW0⟩ := hv
  have hlocks := B.notSynchronized
  have hr := B.returns
  have Z : kZ p m c cJx4a65c_add_72be8 4 s _ wsL_law RJx4a65c E G := ⟨⟨B.exec, B.bytes, hml, findClass_of_methodNamed B.named, fun w h => atoms_spec (ws := .code yJx4a65c_add_72be8 cJx4a65c_add_72be8 4 none :: wsL_law) B.pre w (List.mem_cons_of_mem _ h)⟩, hM, hK⟩
  have hx := Z.1.1
  have hb := Z.1.2.1
  have X := kX.of hW0
  have hl := lv_entry ([.ref (ad 1 li), .ref (ad kk i2), .ref dq, .int (nI n)]) (n := 4) (Nat.le_of_ble_eq_true rfl)
  rw [lg_entry_eq]
  generalize (lg_sl ([.ref (ad 1 li), .ref (ad kk i2), .ref dq, .int (nI n)]) ++ List.replicate (4 - (lg_sl ([.ref (ad 1 li), .ref (ad kk i2), .ref dq, .int (nI n)])).length) Slot.unset).toArray = ls at hl ⊢
  have hl : lv_has ls 4 [(0, .ref (ad 1 li)), (1, .ref (ad kk i2)), (2, .ref dq), (3, .int (nI n))] := hl
  rw [hdq] at hl
  refine lv_iload_n hx hb dJx4a65c_add_72be8_0 rfl (lv_at hl 3 rfl) ?_
  refine lv_aload_n hx hb dJx4a65c_add_72be8_1 rfl (lv_at hl 2 rfl) ?_
  refine k_len (ad := ad) (k := 2) (i := li) (t0 := 3) (v := nI n) Z X h2 rfl rfl dJx4a65c_add_72be8_2 ?_
  refine lv_icmp_ne (tgt := 11) hx hb dJx4a65c_add_72be8_3 (by decide) (fun c_3 => ?_) (fun c_3 => ?_)
  · exact absurd rfl c_3
  · refine lv_aload_n hx hb dJx4a65c_add_72be8_6 rfl (lv_at hl 0 rfl) ?_
    refine k_Rq X (k_runV (As := []) (rest := []) Z X (c_Jx4a65c_grow_d5877 l E G ad ct hE li n kk ci f r mo dq hcl hcb hc (Or.inr ⟨hdq, hn10, h2⟩) hn2 hkk hel h98) (k_cwV 0 Z.1.2.2.2.2 (inU_3 _ (List.mem_of_getElem? (i := 18) rfl)) (inU_3 _ (List.mem_of_getElem? (i := 19) rfl)) (inU_3 _ (List.mem_of_getElem? (i := 20) rfl)) (inU_1 _ (List.mem_of_getElem? (i := 17) rfl)) (inU_3 _ (List.mem_of_getElem? (i := 21) rfl)) rfl rfl (by decide +kernel) ⟨Nat.le_of_ble_eq_true rfl, Nat.le_of_ble_eq_true rfl⟩) (k_recv Z X hc rfl) rfl hl.1 rfl (Nat.le_of_ble_eq_true rfl) dJx4a65c_add_72be8_7 ⟨(by first | exact Nat.le_of_ble_eq_true rfl | (show _ ≤ (_ : Nat); simp only [headSpec]; omega)), (by first | exact Nat.le_of_ble_eq_true rfl | (show _ ≤ (_ : Nat); simp only [headSpec]; omega))⟩) (fun r_7 ad1 ct1 H locs hp X => ?_)
    obtain ⟨z, cap1, rfl, hc1, hc2, hc3, hp1, hp2⟩ := hp
    obtain ⟨adN, hadN⟩ : ∃ y, y = aup ad 2 li z := ⟨_, rfl⟩
    obtain ⟨ctN, hctN⟩ : ∃ y, y = cup (cup ct 2 li (kOa G cap1 (kCut f n))) 1 li (.inr (2, [mo, .ref z, .int (nI n)])) := ⟨_, rfl⟩
    rw [hp1, hp2, ← hadN, ← hctN] at X
    have eN : adN 2 li = z := by rw [hadN]; exact aup_s
    subst eN
    have e0 : adN 1 li = ad 1 li := by rw [hadN]; exact aup_n (by simp)
    have e1 : adN kk i2 = ad kk i2 := by rw [hadN]; exact aup_n (fun z => hkk.2.1 z.1)
    rw [← e0, ← e1] at hl
    have h2 : ctN 2 li = some (kOa G cap1 (kCut f n)) := by rw [hctN]; exact (cup_n (by simp)).trans cup_s
    have hc : ctN 1 li = some (.inr (2, [mo, .ref (adN 2 li), .int (nI n)])) := by rw [hctN]; exact cup_s
    have hv : ctN kk i2 = some (.inr (ci, vs)) := by rw [hctN]; exact (cup_n (fun z => hkk.1 z.1)).trans ((cup_n (fun z => hkk.2.1 z.1)).trans hv)
    refine lv_astore_n (lv' := [(2, .ref (adN 2 li)), (0, .ref (adN 1 li)), (1, .ref (adN kk i2)), (3, .int (nI n))]) hx hb dJx4a65c_add_72be8_10 rfl hl (by decide) rfl (fun ls hl => ?_)
    refine lv_aload_n hx hb dJx4a65c_add_72be8_11 rfl (lv_at hl 0 rfl) ?_
    refine lv_iload_n hx hb dJx4a65c_add_72be8_12 rfl (lv_at hl 3 rfl) ?_
    refine lv_aload_n hx hb dJx4a65c_add_72be8_13 rfl (lv_at hl 2 rfl) ?_
    refine k_ast Z X h2 (hE.word Z.2.1 hcb) hv hcl (vp_in_nI (by omega) (by omega)) dJx4a65c_add_72be8_14 (fun H locs X => ?_)
    rw [show (nI n).toNatClampNeg = n from nI_clamp (by omega)] at X
    have hc : cup ctN 2 li (kOa G cap1 (va_up (kCut f n) n (some (adN kk i2)))) 1 li = some (.inr (2, [mo, .ref (adN 2 li), .int (nI n)])) := (cup_n (by simp)).trans hc
    refine lv_aload_n hx hb dJx4a65c_add_72be8_15 rfl (lv_at hl 1 rfl) ?_
    refine lv_iload_n hx hb dJx4a65c_add_72be8_16 rfl (lv_at hl 3 rfl) ?_
    refine lv_iconst (v := 1) hx hb dJx4a65c_add_72be8_17 (by decide) ?_
    refine lv_iadd hx hb dJx4a65c_add_72be8_18 ?_
    refine lv_topi (fun x_18 e_18 => ?_)
    obtain rfl : x_18 = nI (n + 1) := e_18.trans (nI_1 _)
    refine k_put (index := 48) (j := 2) (k := 1) (i := li) Z X hc inlJx4a65c tyJx4a65c_ok nmJx4a65c rfl (by decide) (inU_3 _ (List.mem_of_getElem? (i := 13) rfl)) (fun _ h => h) rfl (Nat.le_of_ble_eq_true rfl) rfl rfl dJx4a65c_add_72be8_19 (fun H locs X => ?_)
    exact k_vret Z X hr hlocks (by omega) (by omega) dJx4a65c_add_72be8_22 ⟨_, cap1, hc1, hc2, hc3, hadN, by rw [← kUp_1, ← e1, hctN]; exact cup_4⟩
set_option maxHeartbeats 4000000 in
set_option maxRecDepth 100000 in
theorem c_Jx4a65c_add_72be8_c (l : Launch) (E : State) (G : kG) (ad : kAd) (ct : kCt) (hE : kE l E G) (li n kk ci : Nat) (f : Nat → Option Nat) (r : vw_C) (mo : Value) (dq i2 : Nat) (vs : List Value) (hcl : vwCl[ci]? = some r) (hcb : Cond.castable r.1 "java/lang/Object" ∈ kBW) (hc : ct 1 li = some (.inr (2, [mo, .ref dq, .int (nI n)]))) (hv : ct kk i2 = some (.inr (ci, vs))) (hn2 : n < 80) (hkk : kk ≠ 1 ∧ kk ≠ 2 ∧ kk ≠ 98) (hel : kEl ad ct kk ci f) (h98 : ct 98 0 = none) (cap : Nat) (hdq : dq = ad 2 li) (hlt : n < cap) (h10 : 10 ≤ cap) (hcp : cap ≤ 120) (h2 : ct 2 li = some (kOa G cap f)) (hf : ∀ j, n ≤ j → f j = none) : Met l yJx4a65c_add_72be8 (.code yJx4a65c_add_72be8 cJx4a65c_add_72be8 4 none :: wsL_law) ({ frames := 8, cells := 1, slots := 120, locals := 330 } : Room) (va_Pc [.ref (ad 1 li), .ref (ad kk i2), .ref dq, .int (nI n)] (kPre E G ad ct)) (kQv E G (fun ad1 ct1 => ∃ z cap1 : Nat, n < cap1 ∧ 10 ≤ cap1 ∧ cap1 ≤ 120 ∧ ad1 = aup ad 2 li z ∧ ct1 = cup (cup ct 2 li (kOa G cap1 (kUp f n (ad kk i2)))) 1 li (.inr (2, [mo, .ref z, .int (nI (n + 1))])))) 1 120 (kB E.heap.size) := by
  refine Met.ofW (cc := cJx4a65c_add_72be8) (maxL := 4) (ret := none) (by decide) rfl ?_
  intro p e s m args below meth c s₁ B hml hv
  obtain ⟨rfl, hM, hK, hW0⟩ := hv
  have hlocks := B.notSynchronized
  have hr := B.returns
  have Z : kZ p m c cJx4a65c_add_72be8 4 s _ wsL_law RJx4a65c E G := ⟨⟨B.exec, B.bytes, hml, findClass_of_methodNamed B.named, fun w h => atoms_spec (ws := .code yJx4a65c_add_72be8 cJx4a65c_add_72be8 4 none :: wsL_law) B.pre w (List.mem_cons_of_mem _ h)⟩, hM, hK⟩
  have hx := Z.1.1
  have hb := Z.1.2.1
  have X := kX.of hW0
  have hl := lv_entry ([.ref (ad 1 li), .ref (ad kk i2), .ref dq, .int (nI n)]) (n := 4) (Nat.le_of_ble_eq_true rfl)
  rw [lg_entry_eq]
  generalize (lg_sl ([.ref (ad 1 li), .ref (ad kk i2), .ref dq, .int (nI n)]) ++ List.replicate (4 - (lg_sl ([.ref (ad 1 li), .ref (ad kk i2), .ref dq, .int (nI n)])).length) Slot.unset).toArray = ls at hl ⊢
  have hl : lv_has ls 4 [(0, .ref (ad 1 li)), (1, .ref (ad kk i2)), (2, .ref dq), (3, .int (nI n))] := hl
  rw [hdq] at hl hc
  refine lv_iload_n hx hb dJx4a65c_add_72be8_0 rfl (lv_at hl 3 rfl) ?_
  refine lv_aload_n hx hb dJx4a65c_add_72be8_1 rfl (lv_at hl 2 rfl) ?_
  refine k_len (ad := ad) (k := 2) (i := li) (t0 := 3) (v := nI cap) Z X h2 rfl rfl dJx4a65c_add_72be8_2 ?_
  refine lv_icmp_ne (tgt := 11) hx hb dJx4a65c_add_72be8_3 (by decide) (fun c_3 => ?_) (fun c_3 => ?_)
  · refine lv_aload_n hx hb dJx4a65c_add_72be8_11 rfl (lv_at hl 2 rfl) ?_
    refine lv_iload_n hx hb dJx4a65c_add_72be8_12 rfl (lv_at hl 3 rfl) ?_
    refine lv_aload_n hx hb dJx4a65c_add_72be8_13 rfl (lv_at hl 1 rfl) ?_
    refine k_ast Z X h2 (hE.word Z.2.1 hcb) hv hcl (vp_in_nI (by omega) (by omega)) dJx4a65c_add_72be8_14 (fun H locs X => ?_)
    rw [show (nI n).toNatClampNeg = n from nI_clamp (by omega)] at X
    have hc : cup ct 2 li (kOa G cap (va_up f n (some (ad kk i2)))) 1 li = some (.inr (2, [mo, .ref (ad 2 li), .int (nI n)])) := (cup_n (by simp)).trans hc
    refine lv_aload_n hx hb dJx4a65c_add_72be8_15 rfl (lv_at hl 0 rfl) ?_
    refine lv_iload_n hx hb dJx4a65c_add_72be8_16 rfl (lv_at hl 3 rfl) ?_
    refine lv_iconst (v := 1) hx hb dJx4a65c_add_72be8_17 (by decide) ?_
    refine lv_iadd hx hb dJx4a65c_add_72be8_18 ?_
    refine lv_topi (fun x_18 e_18 => ?_)
    obtain rfl : x_18 = nI (n + 1) := e_18.trans (nI_1 _)
    refine k_put (index := 48) (j := 2) (k := 1) (i := li) Z X hc inlJx4a65c tyJx4a65c_ok nmJx4a65c rfl (by decide) (inU_3 _ (List.mem_of_getElem? (i := 13) rfl)) (fun _ h => h) rfl (Nat.le_of_ble_eq_true rfl) rfl rfl dJx4a65c_add_72be8_19 (fun H locs X => ?_)
    exact k_vret Z X hr hlocks (by omega) (by omega) dJx4a65c_add_72be8_22 ⟨ad 2 li, cap, hlt, h10, hcp, aup_id.symm, by rw [← kUp_2 hf]; rfl⟩
  · exact absurd ((nI_eq (a := n) (b := cap) (by omega) (by omega)).mp c_3) (by omega)
set_option maxHeartbeats 4000000 in
set_option maxRecDepth 100000 in
theorem c_Jx4a65c_add_72be8 (l : Launch) (E : State) (G : kG) (ad : kAd) (ct : kCt) (hE : kE l E G) (li n kk ci : Nat) (f : Nat → Option Nat) (r : vw_C) (mo : Value) (dq i2 : Nat) (vs : List Value) (hcl : vwCl[ci]? = some r) (hcb : Cond.castable r.1 "java/lang/Object" ∈ kBW) (hc : ct 1 li = some (.inr (2, [mo, .ref dq, .int (nI n)]))) (hv : ct kk i2 = some (.inr (ci, vs))) (hn2 : n < 80) (hkk : kk ≠ 1 ∧ kk ≠ 2 ∧ kk ≠ 98) (hel : kEl ad ct kk ci f) (h98 : ct 98 0 = none) (cap : Nat) (hd : (n = 0 ∧ dq = G.2.2.2.2.2.2) ∨ (dq = ad 2 li ∧ 10 ≤ cap ∧ n ≤ cap ∧ cap ≤ 120 ∧ ct 2 li = some (kOa G cap f))) (hf : ∀ j, n ≤ j → f j = none) : Met l yJx4a65c_add_72be8 (.code yJx4a65c_add_72be8 cJx4a65c_add_72be8 4 none :: wsL_law) ({ frames := 8, cells := 1, slots := 120, locals := 330 } : Room) (va_Pc [.ref (ad 1 li), .ref (ad kk i2), .ref dq, .int (nI n)] (kPre E G ad ct)) (kQv E G (fun ad1 ct1 => ∃ z cap1 : Nat, n < cap1 ∧ 10 ≤ cap1 ∧ cap1 ≤ 120 ∧ ad1 = aup ad 2 li z ∧ ct1 = cup (cup ct 2 li (kOa G cap1 (kUp f n (ad kk i2)))) 1 li (.inr (2, [mo, .ref z, .int (nI (n + 1))])))) 1 120 (kB E.heap.size) := by
  rcases hd with ⟨h0, h1⟩ | ⟨h1, h10, hle, hcp, h2⟩
  · exact c_Jx4a65c_add_72be8_a l E G ad ct hE li n kk ci f r mo dq i2 vs hcl hcb hc hv hn2 hkk hel h98 h0 h1
  · by_cases h : n = cap
    · subst h
      exact c_Jx4a65c_add_72be8_b l E G ad ct hE li n kk ci f r mo dq i2 vs hcl hcb hc hv hn2 hkk hel h98 h1 h10 h2
    · exact c_Jx4a65c_add_72be8_c l E G ad ct hE li n kk ci f r mo dq i2 vs hcl hcb hc hv hn2 hkk hel h98 cap h1 (by omega) h10 hcp h2 hf
theorem dJx4a65c_add_9ea2d_0 : decode cJx4a65c_add_9ea2d 0 = .ok (.aload_n 0, 1) := by decide +kernel
theorem dJx4a65c_add_9ea2d_1 : decode cJx4a65c_add_9ea2d 1 = .ok (.dup, 1) := by decide +kernel
theorem dJx4a65c_add_9ea2d_2 : decode cJx4a65c_add_9ea2d 2 = .ok (.getfield 63, 3) := by decide +kernel
theorem dJx4a65c_add_9ea2d_5 : decode cJx4a65c_add_9ea2d 5 = .ok (.iconst 1, 1) := by decide +kernel
theorem dJx4a65c_add_9ea2d_6 : decode cJx4a65c_add_9ea2d 6 = .ok (.iadd, 1) := by decide +kernel
theorem dJx4a65c_add_9ea2d_7 : decode cJx4a65c_add_9ea2d 7 = .ok (.putfield 63, 3) := by decide +kernel
theorem dJx4a65c_add_9ea2d_10 : decode cJx4a65c_add_9ea2d 10 = .ok (.aload_n 0, 1) := by decide +kernel
theorem dJx4a65c_add_9ea2d_11 : decode cJx4a65c_add_9ea2d 11 = .ok (.aload_n 1, 1) := by decide +kernel
theorem dJx4a65c_add_9ea2d_12 : decode cJx4a65c_add_9ea2d 12 = .ok (.aload_n 0, 1) := by decide +kernel
theorem dJx4a65c_add_9ea2d_13 : decode cJx4a65c_add_9ea2d 13 = .ok (.getfield 9, 3) := by decide +kernel
theorem dJx4a65c_add_9ea2d_16 : decode cJx4a65c_add_9ea2d 16 = .ok (.aload_n 0, 1) := by decide +kernel
theorem dJx4a65c_add_9ea2d_17 : decode cJx4a65c_add_9ea2d 17 = .ok (.getfield 48, 3) := by decide +kernel
theorem dJx4a65c_add_9ea2d_20 : decode cJx4a65c_add_9ea2d 20 = .ok (.invokevirtual 131, 3) := by decide +kernel
theorem dJx4a65c_add_9ea2d_23 : decode cJx4a65c_add_9ea2d 23 = .ok (.iconst 1, 1) := by decide +kernel
theorem dJx4a65c_add_9ea2d_24 : decode cJx4a65c_add_9ea2d 24 = .ok (.ireturn, 1) := by decide +kernel
set_option maxHeartbeats 4000000 in
set_option maxRecDepth 100000 in
theorem c_Jx4a65c_add_9ea2d (l : Launch) (E : State) (G : kG) (ad : kAd) (ct : kCt) (hE : kE l E G) (li n kk ci : Nat) (f : Nat → Option Nat) (r : vw_C) (mo : Int32) (dq i2 : Nat) (vs : List Value) (hcl : vwCl[ci]? = some r) (hcb : Cond.castable r.1 "java/lang/Object" ∈ kBW) (hc : ct 1 li = some (.inr (2, [.int mo, .ref dq, .int (nI n)]))) (hv : ct kk i2 = some (.inr (ci, vs))) (hn2 : n < 80) (hkk : kk ≠ 1 ∧ kk ≠ 2 ∧ kk ≠ 98) (hel : kEl ad ct kk ci f) (h98 : ct 98 0 = none) (cap : Nat) (hd : (n = 0 ∧ dq = G.2.2.2.2.2.2) ∨ (dq = ad 2 li ∧ 10 ≤ cap ∧ n ≤ cap ∧ cap ≤ 120 ∧ ct 2 li = some (kOa G cap f))) (hf : ∀ j, n ≤ j → f j = none) : Met l yJx4a65c_add_9ea2d (.code yJx4a65c_add_9ea2d cJx4a65c_add_9ea2d 2 (some .boolean) :: wsL_law) ({ frames := 9, cells := 1, slots := 120, locals := 370 } : Room) (va_Pc [.ref (ad 1 li), .ref (ad kk i2)] (kPre E G ad ct)) (kQi E G (fun rr ad1 ct1 => rr = 1 ∧ ∃ z cap1 : Nat, n < cap1 ∧ 10 ≤ cap1 ∧ cap1 ≤ 120 ∧ ad1 = aup ad 2 li z ∧ ct1 = cup (cup ct 2 li (kOa G cap1 (kUp f n (ad kk i2)))) 1 li (.inr (2, [.int (mo + 1), .ref z, .int (nI (n + 1))])))) 1 120 (kB E.heap.size) := by
  refine Met.ofW (cc := cJx4a65c_add_9ea2d) (maxL := 2) (ret := (some .boolean)) (by decide) rfl ?_
  intro p e s m args below meth c s₁ B hml hv
  obtain ⟨rfl, hM, hK, hW0⟩ := hv
  have hlocks := B.notSynchronized
  have hr := B.returns
  have Z : kZ p m c cJx4a65c_add_9ea2d 2 s _ wsL_law RJx4a65c E G := ⟨⟨B.exec, B.bytes, hml, findClass_of_methodNamed B.named, fun w h => atoms_spec (ws := .code yJx4a65c_add_9ea2d cJx4a65c_add_9ea2d 2 (some .boolean) :: wsL_law) B.pre w (List.mem_cons_of_mem _ h)⟩, hM, hK⟩
  have hx := Z.1.1
  have hb := Z.1.2.1
  have X := kX.of hW0
  have hl := lv_entry ([.ref (ad 1 li), .ref (ad kk i2)]) (n := 2) (Nat.le_of_ble_eq_true rfl)
  rw [lg_entry_eq]
  generalize (lg_sl ([.ref (ad 1 li), .ref (ad kk i2)]) ++ List.replicate (2 - (lg_sl ([.ref (ad 1 li), .ref (ad kk i2)])).length) Slot.unset).toArray = ls at hl ⊢
  have hl : lv_has ls 2 [(0, .ref (ad 1 li)), (1, .ref (ad kk i2))] := hl
  refine lv_aload_n hx hb dJx4a65c_add_9ea2d_0 rfl (lv_at hl 0 rfl) ?_
  refine lv_dup hx hb dJx4a65c_add_9ea2d_1 rfl ?_
  refine k_get (index := 63) (j := 0) (ad := ad) (k := 1) (i := li) Z X hc inlJx4a65c rfl (by decide) (inU_3 _ (List.mem_of_getElem? (i := 11) rfl)) (u_same (Z.1.2.2.2.2 _ (inU_3 _ (List.mem_of_getElem? (i := 12) rfl)))) (v := .int mo) rfl dJx4a65c_add_9ea2d_2 ?_
  refine lv_iconst (v := 1) hx hb dJx4a65c_add_9ea2d_5 (by decide) ?_
  refine lv_iadd hx hb dJx4a65c_add_9ea2d_6 ?_
  refine k_put (index := 63) (j := 0) (k := 1) (i := li) Z X hc inlJx4a65c tyJx4a65c_ok nmJx4a65c rfl (by decide) (inU_3 _ (List.mem_of_getElem? (i := 11) rfl)) (u_same (Z.1.2.2.2.2 _ (inU_3 _ (List.mem_of_getElem? (i := 12) rfl)))) rfl (Nat.le_of_ble_eq_true rfl) rfl rfl dJx4a65c_add_9ea2d_7 (fun H locs X => ?_)
  refine lv_aload_n hx hb dJx4a65c_add_9ea2d_10 rfl (lv_at hl 0 rfl) ?_
  refine lv_aload_n hx hb dJx4a65c_add_9ea2d_11 rfl (lv_at hl 1 rfl) ?_
  refine lv_aload_n hx hb dJx4a65c_add_9ea2d_12 rfl (lv_at hl 0 rfl) ?_
  refine k_get (index := 9) (j := 1) (ad := ad) (k := 1) (i := li) Z X cup_s inlJx4a65c rfl (by decide) (inU_2 _ (List.mem_of_getElem? (i := 15) rfl)) (fun _ h => h) (v := .ref dq) rfl dJx4a65c_add_9ea2d_13 ?_
  refine lv_aload_n hx hb dJx4a65c_add_9ea2d_16 rfl (lv_at hl 0 rfl) ?_
  refine k_get (index := 48) (j := 2) (ad := ad) (k := 1) (i := li) Z X cup_s inlJx4a65c rfl (by decide) (inU_3 _ (List.mem_of_getElem? (i := 13) rfl)) (fun _ h => h) (v := .int (nI n)) rfl dJx4a65c_add_9ea2d_17 ?_
  refine k_Rv X (k_runV (As := [.ref (ad kk i2), .ref dq, .int (nI n)]) (rest := []) Z X (c_Jx4a65c_add_72be8 l E G ad (cup ct 1 li (.inr (2, [.int (mo + 1), .ref dq, .int (nI n)]))) hE li n kk ci f r (.int (mo + 1)) dq i2 vs hcl hcb cup_s ((cup_n (fun z => hkk.1 z.1)).trans hv) hn2 hkk (hel.c hkk.1) ((cup_n (by simp)).trans h98) cap (hd.imp id (fun h => ⟨h.1, h.2.1, h.2.2.1, h.2.2.2.1, (cup_n (by simp)).trans h.2.2.2.2⟩)) hf) (k_cwV 3 Z.1.2.2.2.2 (inU_3 _ (List.mem_of_getElem? (i := 14) rfl)) (inU_3 _ (List.mem_of_getElem? (i := 15) rfl)) (inU_3 _ (List.mem_of_getElem? (i := 16) rfl)) (inU_1 _ (List.mem_of_getElem? (i := 17) rfl)) (inU_3 _ (List.mem_of_getElem? (i := 17) rfl)) rfl rfl (by decide +kernel) ⟨Nat.le_of_ble_eq_true rfl, Nat.le_of_ble_eq_true rfl⟩) (k_recv Z X cup_s rfl) rfl hl.1 rfl (Nat.le_of_ble_eq_true rfl) dJx4a65c_add_9ea2d_20 ⟨(by first | exact Nat.le_of_ble_eq_true rfl | (show _ ≤ (_ : Nat); simp only [headSpec]; omega)), (by first | exact Nat.le_of_ble_eq_true rfl | (show _ ≤ (_ : Nat); simp only [headSpec]; omega))⟩) (fun ad1 ct1 H locs hp X => ?_)
  obtain ⟨z, cap1, h1, h2, h3, h4, h5⟩ := hp
  refine lv_iconst (v := 1) hx hb dJx4a65c_add_9ea2d_23 (by decide) ?_
  exact k_iret Z X hr hlocks rfl (by omega) (by omega) dJx4a65c_add_9ea2d_24 ⟨rfl, z, cap1, h1, h2, h3, h4, h5.trans cup_3⟩
theorem dJ7_fill_53178_0 : decode cJ7_fill_53178 0 = .ok (.iconst 0, 1) := by decide +kernel
theorem dJ7_fill_53178_1 : decode cJ7_fill_53178 1 = .ok (.istore_n 2, 1) := by decide +kernel
theorem dJ7_fill_53178_2 : decode cJ7_fill_53178 2 = .ok (.aload_n 0, 1) := by decide +kernel
theorem dJ7_fill_53178_3 : decode cJ7_fill_53178 3 = .ok (.arraylength, 1) := by decide +kernel
theorem dJ7_fill_53178_4 : decode cJ7_fill_53178 4 = .ok (.istore_n 3, 1) := by decide +kernel
theorem dJ7_fill_53178_5 : decode cJ7_fill_53178 5 = .ok (.iload_n 2, 1) := by decide +kernel
theorem dJ7_fill_53178_6 : decode cJ7_fill_53178 6 = .ok (.iload_n 3, 1) := by decide +kernel
theorem dJ7_fill_53178_7 : decode cJ7_fill_53178 7 = .ok (.if_icmp .ge 13, 3) := by decide +kernel
theorem dJ7_fill_53178_10 : decode cJ7_fill_53178 10 = .ok (.aload_n 0, 1) := by decide +kernel
theorem dJ7_fill_53178_11 : decode cJ7_fill_53178 11 = .ok (.iload_n 2, 1) := by decide +kernel
theorem dJ7_fill_53178_12 : decode cJ7_fill_53178 12 = .ok (.iload_n 1, 1) := by decide +kernel
theorem dJ7_fill_53178_13 : decode cJ7_fill_53178 13 = .ok (.iastore, 1) := by decide +kernel
theorem dJ7_fill_53178_14 : decode cJ7_fill_53178 14 = .ok (.iinc 2 1, 3) := by decide +kernel
theorem dJ7_fill_53178_17 : decode cJ7_fill_53178 17 = .ok (.goto (-12), 3) := by decide +kernel
theorem dJ7_fill_53178_20 : decode cJ7_fill_53178 20 = .ok (.return_, 1) := by decide +kernel
set_option maxHeartbeats 4000000 in
set_option maxRecDepth 100000 in
theorem c_J7_fill_53178 (l : Launch) (E : State) (G : kG) (ad : kAd) (ct : kCt) (k i n : Nat) (f : Nat → Int32) (v : Int32) (hc : ct k i = some (.inl (G.2.2.1, n, .inl f))) (hn : n ≤ 100000) : Met l yJ7_fill_53178 (.code yJ7_fill_53178 cJ7_fill_53178 4 none :: wsL_law) ({ frames := 1, cells := 0, slots := 0, locals := 30 } : Room) (va_Pc [.ref (ad k i), .int v] (kPre E G ad ct)) (kQv E G (fun ad1 ct1 => ad = ad1 ∧ ct1 = cup ct k i (.inl (G.2.2.1, n, .inl (fun q => if q < n then v else f q))))) 0 0 (kB E.heap.size) := by
  refine Met.ofW (cc := cJ7_fill_53178) (maxL := 4) (ret := none) (by decide) rfl ?_
  intro p e s m args below meth c s₁ B hml hv
  obtain ⟨rfl, hM, hK, hW0⟩ := hv
  have hlocks := B.notSynchronized
  have hr := B.returns
  have Z : kZ p m c cJ7_fill_53178 4 s _ wsL_law RJ7 E G := ⟨⟨B.exec, B.bytes, hml, findClass_of_methodNamed B.named, fun w h => atoms_spec (ws := .code yJ7_fill_53178 cJ7_fill_53178 4 none :: wsL_law) B.pre w (List.mem_cons_of_mem _ h)⟩, hM, hK⟩
  have hx := Z.1.1
  have hb := Z.1.2.1
  have X := kX.of hW0
  have hl := lv_entry ([.ref (ad k i), .int v]) (n := 4) (Nat.le_of_ble_eq_true rfl)
  rw [lg_entry_eq]
  generalize (lg_sl ([.ref (ad k i), .int v]) ++ List.replicate (4 - (lg_sl ([.ref (ad k i), .int v])).length) Slot.unset).toArray = ls at hl ⊢
  have hl : lv_has ls 4 [(0, .ref (ad k i)), (1, .int v)] := hl
  refine lv_iconst (v := 0) hx hb dJ7_fill_53178_0 (by decide) ?_
  refine lv_istore_n (lv' := [(2, .int 0), (0, .ref (ad k i)), (1, .int v)]) hx hb dJ7_fill_53178_1 rfl hl (by decide) rfl (fun ls hl => ?_)
  refine lv_aload_n hx hb dJ7_fill_53178_2 rfl (lv_at hl 1 rfl) ?_
  refine k_len (ad := ad) (k := k) (i := i) (t0 := 1) (v := nI n) Z X hc rfl rfl dJ7_fill_53178_3 ?_
  refine lv_istore_n (lv' := [(3, .int (nI n)), (2, .int 0), (0, .ref (ad k i)), (1, .int v)]) hx hb dJ7_fill_53178_4 rfl hl (by decide) rfl (fun ls hl => ?_)
  have X : kX E G s _ _ ad (cup ct k i (.inl (G.2.2.1, n, .inl (fun q => if q < 0 then v else f q)))) := kXz X rfl ((cup_id hc).symm.trans (by simp only [Nat.not_lt_zero, if_false]))
  have LOOP_5 : ∀ (d : Nat) (j : Nat), j ≤ n → n < j + d → ∀ (H : Heap) (locs : List Loc) (ls : Array Slot), kX E G s H locs ad (cup ct k i (.inl (G.2.2.1, n, .inl (fun q => if q < j then v else f q)))) → lv_has ls 4 [(2, .int (nI j)), (3, .int (nI n)), (0, .ref (ad k i)), (1, .int v)] → W p l e (headSpec (Cond.code yJ7_fill_53178 cJ7_fill_53178 4 none :: wsL_law) ({ frames := 1, cells := 0, slots := 0, locals := 30 } : Room)).room s m ([.ref (ad k i), .int v] : List Value).toArray below meth c H locs 0 0 (MQ below (kQv E G (fun ad1 ct1 => ad = ad1 ∧ ct1 = cup ct k i (.inl (G.2.2.1, n, .inl (fun q => if q < n then v else f q))))) ([.ref (ad k i), .int v] : List Value).toArray s 0 0 (kB E.heap.size)) (F0 m 5 ls []) := by
    intro d
    induction d with
    | zero => intro j h1 h2; intros; exact absurd h2 (by omega)
    | succ d ih =>
      intro j h1 h2 H locs ls X hl
      refine lv_iload_n hx hb dJ7_fill_53178_5 rfl (lv_at hl 0 rfl) ?_
      refine lv_iload_n hx hb dJ7_fill_53178_6 rfl (lv_at hl 1 rfl) ?_
      refine lv_icmp_ge (tgt := 20) hx hb dJ7_fill_53178_7 (by decide) (fun c_7 => ?_) (fun c_7 => ?_)
      · have c_7 : n ≤ j := (nI_leI (a := n) (b := j) (by omega) (by omega)).mp c_7
        exact k_vret Z X hr hlocks (by omega) (by omega) dJ7_fill_53178_20 ⟨rfl, by rw [show j = n by omega]⟩
      · have c_7 : ¬ n ≤ j := fun h => c_7 ((nI_leI (a := n) (b := j) (by omega) (by omega)).mpr h)
        refine lv_aload_n hx hb dJ7_fill_53178_10 rfl (lv_at hl 2 rfl) ?_
        refine lv_iload_n hx hb dJ7_fill_53178_11 rfl (lv_at hl 0 rfl) ?_
        refine lv_iload_n hx hb dJ7_fill_53178_12 rfl (lv_at hl 3 rfl) ?_
        refine k_ist (ad := ad) (k := k) (i := i) Z X cup_s (vp_in_nI (by omega) (by omega)) dJ7_fill_53178_13 (fun H locs X => ?_)
        have X : kX E G s H locs ad (cup ct k i (.inl (G.2.2.1, n, .inl (fun q => if q < (j + 1) then v else f q)))) := kXz X rfl (by rw [cup_cup, show (nI j).toNatClampNeg = j from nI_clamp (by omega)]; rw [fill_s])
        refine lv_iinc (v := (nI (j + 1))) (lv' := [(2, .int (nI (j + 1))), (3, .int (nI n)), (0, .ref (ad k i)), (1, .int v)]) hx hb dJ7_fill_53178_14 hl (k := 0) rfl (nI_1 _) (by decide) rfl (fun ls hl => ?_)
        refine lv_goto (tgt := 5) hx hb dJ7_fill_53178_17 (by decide) ?_
        exact ih (j + 1) (by omega) (by omega) _ _ _ X (lv_sub hl [0, 1, 2, 3] rfl)
  exact LOOP_5 (n + 1) 0 (by omega) (by omega) _ _ _ X (lv_sub hl [1, 0, 2, 3] rfl)
