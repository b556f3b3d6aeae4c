theorem inB_rng {u : Int32} {n : Nat} (hn : n ≤ 100000) : (decide (0 ≤ u) && decide (u ≤ nI n - 1)) = inB u n := by
  have h1 : (nI n - 1).toInt = (n : Int) - 1 := by
    have := pk_sub_toInt (a := n) (b := 1) (by omega) (by decide)
    exact this
  simp only [inB]
  have e1 : (0 ≤ u) = (0 ≤ u.toInt) := propext (Int32.le_iff_toInt_le)
  have e2 : (u ≤ nI n - 1) = (u.toInt < n) := by
    apply propext
    rw [Int32.le_iff_toInt_le, h1]
    omega
  simp only [e1, e2]
theorem kdT_of {T : kSt} {a u : Nat} (h : cnts T (kdT T a) u = true) : kdT T a u = T.1 21 (12 * a + u) := by
  by_cases h2 : T.1 22 (12 * a + u) = T.1 7 a
  · exact if_pos h2
  · have h3 : kdT T a u = -1 := if_neg h2
    simp [cnts, h3] at h
theorem dX8_isUser_0 : decode cX8_isUser 0 = .ok (.iload_n 1, 1) := by decide +kernel
theorem dX8_isUser_1 : decode cX8_isUser 1 = .ok (.iconst 0, 1) := by decide +kernel
theorem dX8_isUser_2 : decode cX8_isUser 2 = .ok (.aload_n 0, 1) := by decide +kernel
theorem dX8_isUser_3 : decode cX8_isUser 3 = .ok (.getfield 81, 3) := by decide +kernel
theorem dX8_isUser_6 : decode cX8_isUser 6 = .ok (.iconst 1, 1) := by decide +kernel
theorem dX8_isUser_7 : decode cX8_isUser 7 = .ok (.isub, 1) := by decide +kernel
theorem dX8_isUser_8 : decode cX8_isUser 8 = .ok (.invokestatic 84, 3) := by decide +kernel
theorem dX8_isUser_11 : decode cX8_isUser 11 = .ok (.ireturn, 1) := by decide +kernel
set_option maxHeartbeats 4000000 in
set_option maxRecDepth 100000 in
theorem c_X8_isUser (l : Launch) (E : State) (G : kG) (S T : kSt) (o : Int64) (ad : kAd) (x : Int32) (hT : T.2 0 0 ≤ 100000) : Met l yX8_isUser (.code yX8_isUser cX8_isUser 2 (some .boolean) :: wsL_law) ({ frames := 2, cells := 0, slots := 0, locals := 30 } : Room) (va_Pc [.ref (ad 16 0), .int x] (kPre E G ad (cto G S T o ad))) (kQi E G (fun r ad1 ct1 => r = bI (inB x (T.2 0 0)) ∧ ad = ad1 ∧ ct1 = cto G S T o ad)) 0 0 (kB E.heap.size) := by
  refine Met.ofW (cc := cX8_isUser) (maxL := 2) (ret := (some .boolean)) (by decide) rfl ?_
  intro p e s m args below meth c s₁ B hml hv
  obtain ⟨rfl, hM, hK, hW0⟩ := hv
  have hlocks := B.notSynchronized
  have hr := B.returns
  have Z : kZ p m c cX8_isUser 2 s _ wsL_law RX8 E G := ⟨⟨B.exec, B.bytes, hml, findClass_of_methodNamed B.named, fun w h => atoms_spec (ws := .code yX8_isUser cX8_isUser 2 (some .boolean) :: wsL_law) B.pre w (List.mem_cons_of_mem _ h)⟩, hM, hK⟩
  have hx := Z.1.1
  have hb := Z.1.2.1
  have X := kX.of hW0
  have hl := lv_entry ([.ref (ad 16 0), .int x]) (n := 2) (Nat.le_of_ble_eq_true rfl)
  rw [lg_entry_eq]
  generalize (lg_sl ([.ref (ad 16 0), .int x]) ++ List.replicate (2 - (lg_sl ([.ref (ad 16 0), .int x])).length) Slot.unset).toArray = ls at hl ⊢
  have hl : lv_has ls 2 [(0, .ref (ad 16 0)), (1, .int x)] := hl
  refine lv_iload_n hx hb dX8_isUser_0 rfl (lv_at hl 1 rfl) ?_
  refine lv_iconst (v := 0) hx hb dX8_isUser_1 (by decide) ?_
  refine lv_aload_n hx hb dX8_isUser_2 rfl (lv_at hl 0 rfl) ?_
  refine k_get (index := 81) (j := 1) (ad := ad) (k := 16) (i := 0) Z X ct_16 inlX8 rfl (by decide) (inU_8 _ (List.mem_of_getElem? (i := 19) rfl)) (fun _ h => h) rfl dX8_isUser_3 ?_
  refine lv_iconst (v := 1) hx hb dX8_isUser_6 (by decide) ?_
  refine lv_isub hx hb dX8_isUser_7 ?_
  refine k_Ri X (k_runS (As := [.int x, .int 0, .int ((nI (T.2 0 0)) - 1)]) (rest := []) Z X (c_X8_isIn l E G S T o ad x 0 ((nI (T.2 0 0)) - 1)) (k_cwS 3 Z.1.2.2.2.2 (inU_8 _ (List.mem_of_getElem? (i := 23) rfl)) (inU_9 _ (List.mem_of_getElem? (i := 0) rfl)) (inU_1 _ (List.mem_of_getElem? (i := 5) rfl)) (inU_9 _ (List.mem_of_getElem? (i := 1) rfl)) rfl rfl (by decide +kernel) ⟨Nat.le_of_ble_eq_true rfl, Nat.le_of_ble_eq_true rfl⟩) rfl hl.1 rfl (Nat.le_of_ble_eq_true rfl) dX8_isUser_8 ⟨Nat.le_of_ble_eq_true rfl, Nat.le_of_ble_eq_true rfl⟩) (fun r_8 ad1 ct1 H locs hp X => ?_)
  obtain ⟨rfl, rfl, rfl⟩ := hp
  exact k_iret Z X hr hlocks bI_nar (Nat.le_of_ble_eq_true rfl) (Nat.le_of_ble_eq_true rfl) dX8_isUser_11 ⟨congrArg bI (inB_rng hT), rfl, rfl⟩
theorem dX8_isMessage_0 : decode cX8_isMessage 0 = .ok (.iload_n 1, 1) := by decide +kernel
theorem dX8_isMessage_1 : decode cX8_isMessage 1 = .ok (.iconst 0, 1) := by decide +kernel
theorem dX8_isMessage_2 : decode cX8_isMessage 2 = .ok (.aload_n 0, 1) := by decide +kernel
theorem dX8_isMessage_3 : decode cX8_isMessage 3 = .ok (.getfield 91, 3) := by decide +kernel
theorem dX8_isMessage_6 : decode cX8_isMessage 6 = .ok (.iconst 1, 1) := by decide +kernel
theorem dX8_isMessage_7 : decode cX8_isMessage 7 = .ok (.isub, 1) := by decide +kernel
theorem dX8_isMessage_8 : decode cX8_isMessage 8 = .ok (.invokestatic 84, 3) := by decide +kernel
theorem dX8_isMessage_11 : decode cX8_isMessage 11 = .ok (.ireturn, 1) := by decide +kernel
set_option maxHeartbeats 4000000 in
set_option maxRecDepth 100000 in
theorem c_X8_isMessage (l : Launch) (E : State) (G : kG) (S T : kSt) (o : Int64) (ad : kAd) (x : Int32) (hT : T.2 0 1 ≤ 100000) : Met l yX8_isMessage (.code yX8_isMessage cX8_isMessage 2 (some .boolean) :: wsL_law) ({ frames := 2, cells := 0, slots := 0, locals := 30 } : Room) (va_Pc [.ref (ad 16 0), .int x] (kPre E G ad (cto G S T o ad))) (kQi E G (fun r ad1 ct1 => r = bI (inB x (T.2 0 1)) ∧ ad = ad1 ∧ ct1 = cto G S T o ad)) 0 0 (kB E.heap.size) := by
  refine Met.ofW (cc := cX8_isMessage) (maxL := 2) (ret := (some .boolean)) (by decide) rfl ?_
  intro p e s m args below meth c s₁ B hml hv
  obtain ⟨rfl, hM, hK, hW0⟩ := hv
  have hlocks := B.notSynchronized
  have hr := B.returns
  have Z : kZ p m c cX8_isMessage 2 s _ wsL_law RX8 E G := ⟨⟨B.exec, B.bytes, hml, findClass_of_methodNamed B.named, fun w h => atoms_spec (ws := .code yX8_isMessage cX8_isMessage 2 (some .boolean) :: wsL_law) B.pre w (List.mem_cons_of_mem _ h)⟩, hM, hK⟩
  have hx := Z.1.1
  have hb := Z.1.2.1
  have X := kX.of hW0
  have hl := lv_entry ([.ref (ad 16 0), .int x]) (n := 2) (Nat.le_of_ble_eq_true rfl)
  rw [lg_entry_eq]
  generalize (lg_sl ([.ref (ad 16 0), .int x]) ++ List.replicate (2 - (lg_sl ([.ref (ad 16 0), .int x])).length) Slot.unset).toArray = ls at hl ⊢
  have hl : lv_has ls 2 [(0, .ref (ad 16 0)), (1, .int x)] := hl
  refine lv_iload_n hx hb dX8_isMessage_0 rfl (lv_at hl 1 rfl) ?_
  refine lv_iconst (v := 0) hx hb dX8_isMessage_1 (by decide) ?_
  refine lv_aload_n hx hb dX8_isMessage_2 rfl (lv_at hl 0 rfl) ?_
  refine k_get (index := 91) (j := 6) (ad := ad) (k := 16) (i := 0) Z X ct_16 inlX8 rfl (by decide) (inU_16 _ (List.mem_of_getElem? (i := 12) rfl)) (fun _ h => h) rfl dX8_isMessage_3 ?_
  refine lv_iconst (v := 1) hx hb dX8_isMessage_6 (by decide) ?_
  refine lv_isub hx hb dX8_isMessage_7 ?_
  refine k_Ri X (k_runS (As := [.int x, .int 0, .int ((nI (T.2 0 1)) - 1)]) (rest := []) Z X (c_X8_isIn l E G S T o ad x 0 ((nI (T.2 0 1)) - 1)) (k_cwS 3 Z.1.2.2.2.2 (inU_8 _ (List.mem_of_getElem? (i := 23) rfl)) (inU_9 _ (List.mem_of_getElem? (i := 0) rfl)) (inU_1 _ (List.mem_of_getElem? (i := 5) rfl)) (inU_9 _ (List.mem_of_getElem? (i := 1) rfl)) rfl rfl (by decide +kernel) ⟨Nat.le_of_ble_eq_true rfl, Nat.le_of_ble_eq_true rfl⟩) rfl hl.1 rfl (Nat.le_of_ble_eq_true rfl) dX8_isMessage_8 ⟨Nat.le_of_ble_eq_true rfl, Nat.le_of_ble_eq_true rfl⟩) (fun r_8 ad1 ct1 H locs hp X => ?_)
  obtain ⟨rfl, rfl, rfl⟩ := hp
  exact k_iret Z X hr hlocks bI_nar (Nat.le_of_ble_eq_true rfl) (Nat.le_of_ble_eq_true rfl) dX8_isMessage_11 ⟨congrArg bI (inB_rng hT), rfl, rfl⟩
theorem dX8_isTask_0 : decode cX8_isTask 0 = .ok (.iload_n 1, 1) := by decide +kernel
theorem dX8_isTask_1 : decode cX8_isTask 1 = .ok (.iconst 0, 1) := by decide +kernel
theorem dX8_isTask_2 : decode cX8_isTask 2 = .ok (.aload_n 0, 1) := by decide +kernel
theorem dX8_isTask_3 : decode cX8_isTask 3 = .ok (.getfield 128, 3) := by decide +kernel
theorem dX8_isTask_6 : decode cX8_isTask 6 = .ok (.iconst 1, 1) := by decide +kernel
theorem dX8_isTask_7 : decode cX8_isTask 7 = .ok (.isub, 1) := by decide +kernel
theorem dX8_isTask_8 : decode cX8_isTask 8 = .ok (.invokestatic 84, 3) := by decide +kernel
theorem dX8_isTask_11 : decode cX8_isTask 11 = .ok (.ireturn, 1) := by decide +kernel
set_option maxHeartbeats 4000000 in
set_option maxRecDepth 100000 in
theorem c_X8_isTask (l : Launch) (E : State) (G : kG) (S T : kSt) (o : Int64) (ad : kAd) (x : Int32) (hT : T.2 0 3 ≤ 100000) : Met l yX8_isTask (.code yX8_isTask cX8_isTask 2 (some .boolean) :: wsL_law) ({ frames := 2, cells := 0, slots := 0, locals := 30 } : Room) (va_Pc [.ref (ad 16 0), .int x] (kPre E G ad (cto G S T o ad))) (kQi E G (fun r ad1 ct1 => r = bI (inB x (T.2 0 3)) ∧ ad = ad1 ∧ ct1 = cto G S T o ad)) 0 0 (kB E.heap.size) := by
  refine Met.ofW (cc := cX8_isTask) (maxL := 2) (ret := (some .boolean)) (by decide) rfl ?_
  intro p e s m args below meth c s₁ B hml hv
  obtain ⟨rfl, hM, hK, hW0⟩ := hv
  have hlocks := B.notSynchronized
  have hr := B.returns
  have Z : kZ p m c cX8_isTask 2 s _ wsL_law RX8 E G := ⟨⟨B.exec, B.bytes, hml, findClass_of_methodNamed B.named, fun w h => atoms_spec (ws := .code yX8_isTask cX8_isTask 2 (some .boolean) :: wsL_law) B.pre w (List.mem_cons_of_mem _ h)⟩, hM, hK⟩
  have hx := Z.1.1
  have hb := Z.1.2.1
  have X := kX.of hW0
  have hl := lv_entry ([.ref (ad 16 0), .int x]) (n := 2) (Nat.le_of_ble_eq_true rfl)
  rw [lg_entry_eq]
  generalize (lg_sl ([.ref (ad 16 0), .int x]) ++ List.replicate (2 - (lg_sl ([.ref (ad 16 0), .int x])).length) Slot.unset).toArray = ls at hl ⊢
  have hl : lv_has ls 2 [(0, .ref (ad 16 0)), (1, .int x)] := hl
  refine lv_iload_n hx hb dX8_isTask_0 rfl (lv_at hl 1 rfl) ?_
  refine lv_iconst (v := 0) hx hb dX8_isTask_1 (by decide) ?_
  refine lv_aload_n hx hb dX8_isTask_2 rfl (lv_at hl 0 rfl) ?_
  refine k_get (index := 128) (j := 20) (ad := ad) (k := 16) (i := 0) Z X ct_16 inlX8 rfl (by decide) (inU_18 _ (List.mem_of_getElem? (i := 1) rfl)) (fun _ h => h) rfl dX8_isTask_3 ?_
  refine lv_iconst (v := 1) hx hb dX8_isTask_6 (by decide) ?_
  refine lv_isub hx hb dX8_isTask_7 ?_
  refine k_Ri X (k_runS (As := [.int x, .int 0, .int ((nI (T.2 0 3)) - 1)]) (rest := []) Z X (c_X8_isIn l E G S T o ad x 0 ((nI (T.2 0 3)) - 1)) (k_cwS 3 Z.1.2.2.2.2 (inU_8 _ (List.mem_of_getElem? (i := 23) rfl)) (inU_9 _ (List.mem_of_getElem? (i := 0) rfl)) (inU_1 _ (List.mem_of_getElem? (i := 5) rfl)) (inU_9 _ (List.mem_of_getElem? (i := 1) rfl)) rfl rfl (by decide +kernel) ⟨Nat.le_of_ble_eq_true rfl, Nat.le_of_ble_eq_true rfl⟩) rfl hl.1 rfl (Nat.le_of_ble_eq_true rfl) dX8_isTask_8 ⟨Nat.le_of_ble_eq_true rfl, Nat.le_of_ble_eq_true rfl⟩) (fun r_8 ad1 ct1 H locs hp X => ?_)
  obtain ⟨rfl, rfl, rfl⟩ := hp
  exact k_iret Z X hr hlocks bI_nar (Nat.le_of_ble_eq_true rfl) (Nat.le_of_ble_eq_true rfl) dX8_isTask_11 ⟨congrArg bI (inB_rng hT), rfl, rfl⟩
theorem dX8_isChannel_0 : decode cX8_isChannel 0 = .ok (.iload_n 0, 1) := by decide +kernel
theorem dX8_isChannel_1 : decode cX8_isChannel 1 = .ok (.iconst 0, 1) := by decide +kernel
theorem dX8_isChannel_2 : decode cX8_isChannel 2 = .ok (.iconst 5, 1) := by decide +kernel
theorem dX8_isChannel_3 : decode cX8_isChannel 3 = .ok (.invokestatic 84, 3) := by decide +kernel
theorem dX8_isChannel_6 : decode cX8_isChannel 6 = .ok (.ireturn, 1) := by decide +kernel
set_option maxHeartbeats 4000000 in
set_option maxRecDepth 100000 in
theorem c_X8_isChannel (l : Launch) (E : State) (G : kG) (S T : kSt) (o : Int64) (ad : kAd) (x : Int32) : Met l yX8_isChannel (.code yX8_isChannel cX8_isChannel 1 (some .boolean) :: wsL_law) ({ frames := 2, cells := 0, slots := 0, locals := 30 } : Room) (va_Pc [.int x] (kPre E G ad (cto G S T o ad))) (kQi E G (fun r ad1 ct1 => r = bI (decide (0 ≤ x) && decide (x ≤ 5)) ∧ ad = ad1 ∧ ct1 = cto G S T o ad)) 0 0 (kB E.heap.size) := by
  refine Met.ofW (cc := cX8_isChannel) (maxL := 1) (ret := (some .boolean)) (by decide) rfl ?_
  intro p e s m args below meth c s₁ B hml hv
  obtain ⟨rfl, hM, hK, hW0⟩ := hv
  have hlocks := B.notSynchronized
  have hr := B.returns
  have Z : kZ p m c cX8_isChannel 1 s _ wsL_law RX8 E G := ⟨⟨B.exec, B.bytes, hml, findClass_of_methodNamed B.named, fun w h => atoms_spec (ws := .code yX8_isChannel cX8_isChannel 1 (some .boolean) :: wsL_law) B.pre w (List.mem_cons_of_mem _ h)⟩, hM, hK⟩
  have hx := Z.1.1
  have hb := Z.1.2.1
  have X := kX.of hW0
  have hl := lv_entry ([.int x]) (n := 1) (Nat.le_of_ble_eq_true rfl)
  rw [lg_entry_eq]
  generalize (lg_sl ([.int x]) ++ List.replicate (1 - (lg_sl ([.int x])).length) Slot.unset).toArray = ls at hl ⊢
  have hl : lv_has ls 1 [(0, .int x)] := hl
  refine lv_iload_n hx hb dX8_isChannel_0 rfl (lv_at hl 0 rfl) ?_
  refine lv_iconst (v := 0) hx hb dX8_isChannel_1 (by decide) ?_
  refine lv_iconst (v := 5) hx hb dX8_isChannel_2 (by decide) ?_
  refine k_Ri X (k_runS (As := [.int x, .int 0, .int 5]) (rest := []) Z X (c_X8_isIn l E G S T o ad x 0 5) (k_cwS 3 Z.1.2.2.2.2 (inU_8 _ (List.mem_of_getElem? (i := 23) rfl)) (inU_9 _ (List.mem_of_getElem? (i := 0) rfl)) (inU_1 _ (List.mem_of_getElem? (i := 5) rfl)) (inU_9 _ (List.mem_of_getElem? (i := 1) rfl)) rfl rfl (by decide +kernel) ⟨Nat.le_of_ble_eq_true rfl, Nat.le_of_ble_eq_true rfl⟩) rfl hl.1 rfl (Nat.le_of_ble_eq_true rfl) dX8_isChannel_3 ⟨Nat.le_of_ble_eq_true rfl, Nat.le_of_ble_eq_true rfl⟩) (fun r_3 ad1 ct1 H locs hp X => ?_)
  obtain ⟨rfl, rfl, rfl⟩ := hp
  exact k_iret Z X hr hlocks bI_nar (Nat.le_of_ble_eq_true rfl) (Nat.le_of_ble_eq_true rfl) dX8_isChannel_6 ⟨rfl, rfl, rfl⟩
theorem dX8_isRole_0 : decode cX8_isRole 0 = .ok (.iload_n 0, 1) := by decide +kernel
theorem dX8_isRole_1 : decode cX8_isRole 1 = .ok (.iconst 0, 1) := by decide +kernel
theorem dX8_isRole_2 : decode cX8_isRole 2 = .ok (.iconst 3, 1) := by decide +kernel
theorem dX8_isRole_3 : decode cX8_isRole 3 = .ok (.invokestatic 84, 3) := by decide +kernel
theorem dX8_isRole_6 : decode cX8_isRole 6 = .ok (.ireturn, 1) := by decide +kernel
set_option maxHeartbeats 4000000 in
set_option maxRecDepth 100000 in
theorem c_X8_isRole (l : Launch) (E : State) (G : kG) (S T : kSt) (o : Int64) (ad : kAd) (x : Int32) : Met l yX8_isRole (.code yX8_isRole cX8_isRole 1 (some .boolean) :: wsL_law) ({ frames := 2, cells := 0, slots := 0, locals := 30 } : Room) (va_Pc [.int x] (kPre E G ad (cto G S T o ad))) (kQi E G (fun r ad1 ct1 => r = bI (decide (0 ≤ x) && decide (x ≤ 3)) ∧ ad = ad1 ∧ ct1 = cto G S T o ad)) 0 0 (kB E.heap.size) := by
  refine Met.ofW (cc := cX8_isRole) (maxL := 1) (ret := (some .boolean)) (by decide) rfl ?_
  intro p e s m args below meth c s₁ B hml hv
  obtain ⟨rfl, hM, hK, hW0⟩ := hv
  have hlocks := B.notSynchronized
  have hr := B.returns
  have Z : kZ p m c cX8_isRole 1 s _ wsL_law RX8 E G := ⟨⟨B.exec, B.bytes, hml, findClass_of_methodNamed B.named, fun w h => atoms_spec (ws := .code yX8_isRole cX8_isRole 1 (some .boolean) :: wsL_law) B.pre w (List.mem_cons_of_mem _ h)⟩, hM, hK⟩
  have hx := Z.1.1
  have hb := Z.1.2.1
  have X := kX.of hW0
  have hl := lv_entry ([.int x]) (n := 1) (Nat.le_of_ble_eq_true rfl)
  rw [lg_entry_eq]
  generalize (lg_sl ([.int x]) ++ List.replicate (1 - (lg_sl ([.int x])).length) Slot.unset).toArray = ls at hl ⊢
  have hl : lv_has ls 1 [(0, .int x)] := hl
  refine lv_iload_n hx hb dX8_isRole_0 rfl (lv_at hl 0 rfl) ?_
  refine lv_iconst (v := 0) hx hb dX8_isRole_1 (by decide) ?_
  refine lv_iconst (v := 3) hx hb dX8_isRole_2 (by decide) ?_
  refine k_Ri X (k_runS (As := [.int x, .int 0, .int 3]) (rest := []) Z X (c_X8_isIn l E G S T o ad x 0 3) (k_cwS 3 Z.1.2.2.2.2 (inU_8 _ (List.mem_of_getElem? (i := 23) rfl)) (inU_9 _ (List.mem_of_getElem? (i := 0) rfl)) (inU_1 _ (List.mem_of_getElem? (i := 5) rfl)) (inU_9 _ (List.mem_of_getElem? (i := 1) rfl)) rfl rfl (by decide +kernel) ⟨Nat.le_of_ble_eq_true rfl, Nat.le_of_ble_eq_true rfl⟩) rfl hl.1 rfl (Nat.le_of_ble_eq_true rfl) dX8_isRole_3 ⟨Nat.le_of_ble_eq_true rfl, Nat.le_of_ble_eq_true rfl⟩) (fun r_3 ad1 ct1 H locs hp X => ?_)
  obtain ⟨rfl, rfl, rfl⟩ := hp
  exact k_iret Z X hr hlocks bI_nar (Nat.le_of_ble_eq_true rfl) (Nat.le_of_ble_eq_true rfl) dX8_isRole_6 ⟨rfl, rfl, rfl⟩
theorem dX8_isGone_0 : decode cX8_isGone 0 = .ok (.aload_n 0, 1) := by decide +kernel
theorem dX8_isGone_1 : decode cX8_isGone 1 = .ok (.getfield 13, 3) := by decide +kernel
theorem dX8_isGone_4 : decode cX8_isGone 4 = .ok (.iload_n 1, 1) := by decide +kernel
theorem dX8_isGone_5 : decode cX8_isGone 5 = .ok (.iaload, 1) := by decide +kernel
theorem dX8_isGone_6 : decode cX8_isGone 6 = .ok (.iconst (-1), 1) := by decide +kernel
theorem dX8_isGone_7 : decode cX8_isGone 7 = .ok (.if_icmp .eq 20, 3) := by decide +kernel
theorem dX8_isGone_10 : decode cX8_isGone 10 = .ok (.aload_n 0, 1) := by decide +kernel
theorem dX8_isGone_11 : decode cX8_isGone 11 = .ok (.getfield 88, 3) := by decide +kernel
theorem dX8_isGone_14 : decode cX8_isGone 14 = .ok (.aload_n 0, 1) := by decide +kernel
theorem dX8_isGone_15 : decode cX8_isGone 15 = .ok (.getfield 13, 3) := by decide +kernel
theorem dX8_isGone_18 : decode cX8_isGone 18 = .ok (.iload_n 1, 1) := by decide +kernel
theorem dX8_isGone_19 : decode cX8_isGone 19 = .ok (.iaload, 1) := by decide +kernel
theorem dX8_isGone_20 : decode cX8_isGone 20 = .ok (.if_icmp .lt 7, 3) := by decide +kernel
theorem dX8_isGone_23 : decode cX8_isGone 23 = .ok (.iconst 1, 1) := by decide +kernel
theorem dX8_isGone_24 : decode cX8_isGone 24 = .ok (.goto 4, 3) := by decide +kernel
theorem dX8_isGone_27 : decode cX8_isGone 27 = .ok (.iconst 0, 1) := by decide +kernel
theorem dX8_isGone_28 : decode cX8_isGone 28 = .ok (.ireturn, 1) := by decide +kernel
set_option maxHeartbeats 4000000 in
set_option maxRecDepth 100000 in
theorem c_X8_isGone (l : Launch) (E : State) (G : kG) (S T : kSt) (o : Int64) (ad : kAd) (j : Nat) (hj : j < 12) : Met l yX8_isGone (.code yX8_isGone cX8_isGone 2 (some .boolean) :: wsL_law) ({ frames := 1, cells := 0, slots := 0, locals := 8 } : Room) (va_Pc [.ref (ad 16 0), .int (nI j)] (kPre E G ad (cto G S T o ad))) (kQi E G (fun r ad1 ct1 => r = bI (gone T j) ∧ ad = ad1 ∧ ct1 = cto G S T o ad)) 0 0 (kB E.heap.size) := by
  refine Met.ofW (cc := cX8_isGone) (maxL := 2) (ret := (some .boolean)) (by decide) rfl ?_
  intro p e s m args below meth c s₁ B hml hv
  obtain ⟨rfl, hM, hK, hW0⟩ := hv
  have hlocks := B.notSynchronized
  have hr := B.returns
  have Z : kZ p m c cX8_isGone 2 s _ wsL_law RX8 E G := ⟨⟨B.exec, B.bytes, hml, findClass_of_methodNamed B.named, fun w h => atoms_spec (ws := .code yX8_isGone cX8_isGone 2 (some .boolean) :: wsL_law) B.pre w (List.mem_cons_of_mem _ h)⟩, hM, hK⟩
  have hx := Z.1.1
  have hb := Z.1.2.1
  have X := kX.of hW0
  have hl := lv_entry ([.ref (ad 16 0), .int (nI j)]) (n := 2) (Nat.le_of_ble_eq_true rfl)
  rw [lg_entry_eq]
  generalize (lg_sl ([.ref (ad 16 0), .int (nI j)]) ++ List.replicate (2 - (lg_sl ([.ref (ad 16 0), .int (nI j)])).length) Slot.unset).toArray = ls at hl ⊢
  have hl : lv_has ls 2 [(0, .ref (ad 16 0)), (1, .int (nI j))] := hl
  refine lv_aload_n hx hb dX8_isGone_0 rfl (lv_at hl 0 rfl) ?_
  refine k_get (index := 13) (j := 3) (ad := ad) (k := 16) (i := 0) Z X ct_16 inlX8 rfl (by decide) (inU_6 _ (List.mem_of_getElem? (i := 7) rfl)) (fun _ h => h) rfl dX8_isGone_1 ?_
  refine lv_iload_n hx hb dX8_isGone_4 rfl (lv_at hl 1 rfl) ?_
  refine k_ild (ad := ad) (k := 17) (i := 1) Z X ct_17_1 (vp_in_nI (by first | assumption | omega) (by decide)) dX8_isGone_5 ?_
  refine lv_topi (fun x_5 e_5 => ?_)
  obtain rfl : x_5 = T.1 2 j := e_5.trans (by simp only [nI_clamp (show j < 2 ^ 31 by omega)])
  refine lv_iconst (v := (-1)) hx hb dX8_isGone_6 (by decide) ?_
  refine lv_icmp_eq (tgt := 27) hx hb dX8_isGone_7 (by decide) (fun c_7 => ?_) (fun c_7 => ?_)
  · refine lv_iconst (v := 0) hx hb dX8_isGone_27 (by decide) ?_
    exact k_iret Z X hr hlocks rfl (Nat.le_of_ble_eq_true rfl) (Nat.le_of_ble_eq_true rfl) dX8_isGone_28 ⟨bI_f (by simp [gone, c_7]), rfl, rfl⟩
  · refine lv_aload_n hx hb dX8_isGone_10 rfl (lv_at hl 0 rfl) ?_
    refine k_get (index := 88) (j := 0) (ad := ad) (k := 16) (i := 0) Z X ct_16 inlX8 rfl (by decide) (inU_13 _ (List.mem_of_getElem? (i := 6) rfl)) (fun _ h => h) rfl dX8_isGone_11 ?_
    refine lv_aload_n hx hb dX8_isGone_14 rfl (lv_at hl 0 rfl) ?_
    refine k_get (index := 13) (j := 3) (ad := ad) (k := 16) (i := 0) Z X ct_16 inlX8 rfl (by decide) (inU_6 _ (List.mem_of_getElem? (i := 7) rfl)) (fun _ h => h) rfl dX8_isGone_15 ?_
    refine lv_iload_n hx hb dX8_isGone_18 rfl (lv_at hl 1 rfl) ?_
    refine k_ild (ad := ad) (k := 17) (i := 1) Z X ct_17_1 (vp_in_nI (by first | assumption | omega) (by decide)) dX8_isGone_19 ?_
    refine lv_topi (fun x_19 e_19 => ?_)
    obtain rfl : x_19 = T.1 2 j := e_19.trans (by simp only [nI_clamp (show j < 2 ^ 31 by omega)])
    refine lv_icmp_lt (tgt := 27) hx hb dX8_isGone_20 (by decide) (fun c_20 => ?_) (fun c_20 => ?_)
    · refine lv_iconst (v := 0) hx hb dX8_isGone_27 (by decide) ?_
      exact k_iret Z X hr hlocks rfl (Nat.le_of_ble_eq_true rfl) (Nat.le_of_ble_eq_true rfl) dX8_isGone_28 ⟨bI_f (by simp [gone, c_7, c_20]), rfl, rfl⟩
    · refine lv_iconst (v := 1) hx hb dX8_isGone_23 (by decide) ?_
      refine lv_goto (tgt := 28) hx hb dX8_isGone_24 (by decide) ?_
      exact k_iret Z X hr hlocks rfl (Nat.le_of_ble_eq_true rfl) (Nat.le_of_ble_eq_true rfl) dX8_isGone_28 ⟨bI_t (by simp [gone, c_7, c_20]), rfl, rfl⟩
theorem dX8_counts_0 : decode cX8_counts 0 = .ok (.bipush 12, 2) := by decide +kernel
theorem dX8_counts_2 : decode cX8_counts 2 = .ok (.iload_n 1, 1) := by decide +kernel
theorem dX8_counts_3 : decode cX8_counts 3 = .ok (.imul, 1) := by decide +kernel
theorem dX8_counts_4 : decode cX8_counts 4 = .ok (.iload_n 2, 1) := by decide +kernel
theorem dX8_counts_5 : decode cX8_counts 5 = .ok (.iadd, 1) := by decide +kernel
theorem dX8_counts_6 : decode cX8_counts 6 = .ok (.istore_n 3, 1) := by decide +kernel
theorem dX8_counts_7 : decode cX8_counts 7 = .ok (.aload_n 0, 1) := by decide +kernel
theorem dX8_counts_8 : decode cX8_counts 8 = .ok (.getfield 41, 3) := by decide +kernel
theorem dX8_counts_11 : decode cX8_counts 11 = .ok (.iload_n 3, 1) := by decide +kernel
theorem dX8_counts_12 : decode cX8_counts 12 = .ok (.iaload, 1) := by decide +kernel
theorem dX8_counts_13 : decode cX8_counts 13 = .ok (.iconst (-1), 1) := by decide +kernel
theorem dX8_counts_14 : decode cX8_counts 14 = .ok (.if_icmp .eq 39, 3) := by decide +kernel
theorem dX8_counts_17 : decode cX8_counts 17 = .ok (.aload_n 0, 1) := by decide +kernel
theorem dX8_counts_18 : decode cX8_counts 18 = .ok (.getfield 44, 3) := by decide +kernel
theorem dX8_counts_21 : decode cX8_counts 21 = .ok (.iload_n 3, 1) := by decide +kernel
theorem dX8_counts_22 : decode cX8_counts 22 = .ok (.iaload, 1) := by decide +kernel
theorem dX8_counts_23 : decode cX8_counts 23 = .ok (.aload_n 0, 1) := by decide +kernel
theorem dX8_counts_24 : decode cX8_counts 24 = .ok (.getfield 32, 3) := by decide +kernel
theorem dX8_counts_27 : decode cX8_counts 27 = .ok (.iload_n 1, 1) := by decide +kernel
theorem dX8_counts_28 : decode cX8_counts 28 = .ok (.iaload, 1) := by decide +kernel
theorem dX8_counts_29 : decode cX8_counts 29 = .ok (.if_icmp .ne 24, 3) := by decide +kernel
theorem dX8_counts_32 : decode cX8_counts 32 = .ok (.aload_n 0, 1) := by decide +kernel
theorem dX8_counts_33 : decode cX8_counts 33 = .ok (.iload_n 2, 1) := by decide +kernel
theorem dX8_counts_34 : decode cX8_counts 34 = .ok (.invokevirtual 94, 3) := by decide +kernel
theorem dX8_counts_37 : decode cX8_counts 37 = .ok (.ifCond .ne 16, 3) := by decide +kernel
theorem dX8_counts_40 : decode cX8_counts 40 = .ok (.aload_n 0, 1) := by decide +kernel
theorem dX8_counts_41 : decode cX8_counts 41 = .ok (.getfield 7, 3) := by decide +kernel
theorem dX8_counts_44 : decode cX8_counts 44 = .ok (.iload_n 2, 1) := by decide +kernel
theorem dX8_counts_45 : decode cX8_counts 45 = .ok (.iaload, 1) := by decide +kernel
theorem dX8_counts_46 : decode cX8_counts 46 = .ok (.ifCond .eq 7, 3) := by decide +kernel
theorem dX8_counts_49 : decode cX8_counts 49 = .ok (.iconst 1, 1) := by decide +kernel
theorem dX8_counts_50 : decode cX8_counts 50 = .ok (.goto 4, 3) := by decide +kernel
theorem dX8_counts_53 : decode cX8_counts 53 = .ok (.iconst 0, 1) := by decide +kernel
theorem dX8_counts_54 : decode cX8_counts 54 = .ok (.ireturn, 1) := by decide +kernel
set_option maxHeartbeats 4000000 in
set_option maxRecDepth 100000 in
theorem c_X8_counts (l : Launch) (E : State) (G : kG) (S T : kSt) (o : Int64) (ad : kAd) (a j : Nat) (ha : a < 80) (hj : j < 12) : Met l yX8_counts (.code yX8_counts cX8_counts 4 (some .boolean) :: wsL_law) ({ frames := 2, cells := 0, slots := 0, locals := 29 } : Room) (va_Pc [.ref (ad 16 0), .int (nI a), .int (nI j)] (kPre E G ad (cto G S T o ad))) (kQi E G (fun r ad1 ct1 => r = bI (cnts T (kdT T a) j) ∧ ad = ad1 ∧ ct1 = cto G S T o ad)) 0 0 (kB E.heap.size) := by
  refine Met.ofW (cc := cX8_counts) (maxL := 4) (ret := (some .boolean)) (by decide) rfl ?_
  intro p e s m args below meth c s₁ B hml hv
  obtain ⟨rfl, hM, hK, hW0⟩ := hv
  have hlocks := B.notSynchronized
  have hr := B.returns
  have Z : kZ p m c cX8_counts 4 s _ wsL_law RX8 E G := ⟨⟨B.exec, B.bytes, hml, findClass_of_methodNamed B.named, fun w h => atoms_spec (ws := .code yX8_counts cX8_counts 4 (some .boolean) :: wsL_law) B.pre w (List.mem_cons_of_mem _ h)⟩, hM, hK⟩
  have hx := Z.1.1
  have hb := Z.1.2.1
  have X := kX.of hW0
  have hl := lv_entry ([.ref (ad 16 0), .int (nI a), .int (nI j)]) (n := 4) (Nat.le_of_ble_eq_true rfl)
  rw [lg_entry_eq]
  generalize (lg_sl ([.ref (ad 16 0), .int (nI a), .int (nI j)]) ++ List.replicate (4 - (lg_sl ([.ref (ad 16 0), .int (nI a), .int (nI j)])).length) Slot.unset).toArray = ls at hl ⊢
  have hl : lv_has ls 4 [(0, .ref (ad 16 0)), (1, .int (nI a)), (2, .int (nI j))] := hl
  refine lv_bipush (v := 12) hx hb dX8_counts_0 (by decide) ?_
  refine lv_iload_n hx hb dX8_counts_2 rfl (lv_at hl 1 rfl) ?_
  refine lv_imul hx hb dX8_counts_3 ?_
  refine lv_iload_n hx hb dX8_counts_4 rfl (lv_at hl 2 rfl) ?_
  refine lv_iadd hx hb dX8_counts_5 ?_
  refine lv_topi (fun x_5 e_5 => ?_)
  obtain rfl : x_5 = nI (12 * a + j) := e_5.trans (by rw [show (12 : Int32) = nI 12 from rfl, pk_mul, nI_add])
  refine lv_istore_n (lv' := [(3, .int (nI (12 * a + j))), (0, .ref (ad 16 0)), (1, .int (nI a)), (2, .int (nI j))]) hx hb dX8_counts_6 rfl hl (by decide) rfl (fun ls hl => ?_)
  refine lv_aload_n hx hb dX8_counts_7 rfl (lv_at hl 1 rfl) ?_
  refine k_get (index := 41) (j := 13) (ad := ad) (k := 16) (i := 0) Z X ct_16 inlX8 rfl (by decide) (inU_6 _ (List.mem_of_getElem? (i := 17) rfl)) (fun _ h => h) rfl dX8_counts_8 ?_
  refine lv_iload_n hx hb dX8_counts_11 rfl (lv_at hl 0 rfl) ?_
  refine k_ild (ad := ad) (k := 17) (i := 10) Z X ct_17_10 (vp_in_nI (by first | assumption | omega) (by decide)) dX8_counts_12 ?_
  refine lv_topi (fun x_12 e_12 => ?_)
  obtain rfl : x_12 = T.1 21 (12 * a + j) := e_12.trans (by simp only [nI_clamp (show 12 * a + j < 2 ^ 31 by omega)])
  refine lv_iconst (v := (-1)) hx hb dX8_counts_13 (by decide) ?_
  refine lv_icmp_eq (tgt := 53) hx hb dX8_counts_14 (by decide) (fun c_14 => ?_) (fun c_14 => ?_)
  · refine lv_iconst (v := 0) hx hb dX8_counts_53 (by decide) ?_
    exact k_iret Z X hr hlocks rfl (Nat.le_of_ble_eq_true rfl) (Nat.le_of_ble_eq_true rfl) dX8_counts_54 ⟨bI_f (by simp [cnts, kdT, c_14]), rfl, rfl⟩
  · refine lv_aload_n hx hb dX8_counts_17 rfl (lv_at hl 1 rfl) ?_
    refine k_get (index := 44) (j := 14) (ad := ad) (k := 16) (i := 0) Z X ct_16 inlX8 rfl (by decide) (inU_6 _ (List.mem_of_getElem? (i := 18) rfl)) (fun _ h => h) rfl dX8_counts_18 ?_
    refine lv_iload_n hx hb dX8_counts_21 rfl (lv_at hl 0 rfl) ?_
    refine k_ild (ad := ad) (k := 17) (i := 11) Z X ct_17_11 (vp_in_nI (by first | assumption | omega) (by decide)) dX8_counts_22 ?_
    refine lv_topi (fun x_22 e_22 => ?_)
    obtain rfl : x_22 = T.1 22 (12 * a + j) := e_22.trans (by simp only [nI_clamp (show 12 * a + j < 2 ^ 31 by omega)])
    refine lv_aload_n hx hb dX8_counts_23 rfl (lv_at hl 1 rfl) ?_
    refine k_get (index := 32) (j := 10) (ad := ad) (k := 16) (i := 0) Z X ct_16 inlX8 rfl (by decide) (inU_6 _ (List.mem_of_getElem? (i := 14) rfl)) (fun _ h => h) rfl dX8_counts_24 ?_
    refine lv_iload_n hx hb dX8_counts_27 rfl (lv_at hl 2 rfl) ?_
    refine k_ild (ad := ad) (k := 17) (i := 7) Z X ct_17_7 (vp_in_nI (by first | assumption | omega) (by decide)) dX8_counts_28 ?_
    refine lv_topi (fun x_28 e_28 => ?_)
    obtain rfl : x_28 = T.1 7 a := e_28.trans (by simp only [nI_clamp (show a < 2 ^ 31 by omega)])
    refine lv_icmp_ne (tgt := 53) hx hb dX8_counts_29 (by decide) (fun c_29 => ?_) (fun c_29 => ?_)
    · refine lv_iconst (v := 0) hx hb dX8_counts_53 (by decide) ?_
      exact k_iret Z X hr hlocks rfl (Nat.le_of_ble_eq_true rfl) (Nat.le_of_ble_eq_true rfl) dX8_counts_54 ⟨bI_f (by simp [cnts, kdT, c_14, c_29]), rfl, rfl⟩
    · refine lv_aload_n hx hb dX8_counts_32 rfl (lv_at hl 1 rfl) ?_
      refine lv_iload_n hx hb dX8_counts_33 rfl (lv_at hl 3 rfl) ?_
      refine k_Ri X (k_runV (As := [.int (nI j)]) (rest := []) Z X (c_X8_isGone l E G S T o ad j hj) (k_cwV 1 Z.1.2.2.2.2 (inU_13 _ (List.mem_of_getElem? (i := 2) rfl)) (inU_13 _ (List.mem_of_getElem? (i := 3) rfl)) (inU_13 _ (List.mem_of_getElem? (i := 4) rfl)) (inU_1 _ (List.mem_of_getElem? (i := 5) rfl)) (inU_13 _ (List.mem_of_getElem? (i := 5) rfl)) rfl rfl (by decide +kernel) ⟨Nat.le_of_ble_eq_true rfl, Nat.le_of_ble_eq_true rfl⟩) (k_recv Z X ct_16 rfl) rfl hl.1 rfl (Nat.le_of_ble_eq_true rfl) dX8_counts_34 ⟨Nat.le_of_ble_eq_true rfl, Nat.le_of_ble_eq_true rfl⟩) (fun r_34 ad1 ct1 H locs hp X => ?_)
      obtain ⟨rfl, rfl, rfl⟩ := hp
      refine lv_if_ne (tgt := 53) hx hb dX8_counts_37 (by decide) (fun c_37 => ?_) (fun c_37 => ?_)
      · have c_37 : (gone T j) = true := bI_1 c_37
        refine lv_iconst (v := 0) hx hb dX8_counts_53 (by decide) ?_
        exact k_iret Z X hr hlocks rfl (Nat.le_of_ble_eq_true rfl) (Nat.le_of_ble_eq_true rfl) dX8_counts_54 ⟨bI_f (by simp [cnts, kdT, c_14, c_29, c_37]), rfl, rfl⟩
      · have c_37 : (gone T j) = false := bI_0 c_37
        refine lv_aload_n hx hb dX8_counts_40 rfl (lv_at hl 1 rfl) ?_
        refine k_get (index := 7) (j := 2) (ad := ad) (k := 16) (i := 0) Z X ct_16 inlX8 rfl (by decide) (inU_6 _ (List.mem_of_getElem? (i := 6) rfl)) (fun _ h => h) rfl dX8_counts_41 ?_
        refine lv_iload_n hx hb dX8_counts_44 rfl (lv_at hl 3 rfl) ?_
        refine k_ild (ad := ad) (k := 17) (i := 0) Z X ct_17_0 (vp_in_nI (by first | assumption | omega) (by decide)) dX8_counts_45 ?_
        refine lv_topi (fun x_45 e_45 => ?_)
        obtain rfl : x_45 = T.1 1 j := e_45.trans (by simp only [nI_clamp (show j < 2 ^ 31 by omega)])
        refine lv_if_eq (tgt := 53) hx hb dX8_counts_46 (by decide) (fun c_46 => ?_) (fun c_46 => ?_)
        · refine lv_iconst (v := 0) hx hb dX8_counts_53 (by decide) ?_
          exact k_iret Z X hr hlocks rfl (Nat.le_of_ble_eq_true rfl) (Nat.le_of_ble_eq_true rfl) dX8_counts_54 ⟨bI_f (by simp [cnts, kdT, c_14, c_29, c_37, c_46]), rfl, rfl⟩
        · refine lv_iconst (v := 1) hx hb dX8_counts_49 (by decide) ?_
          refine lv_goto (tgt := 54) hx hb dX8_counts_50 (by decide) ?_
          exact k_iret Z X hr hlocks rfl (Nat.le_of_ble_eq_true rfl) (Nat.le_of_ble_eq_true rfl) dX8_counts_54 ⟨bI_t (by simp [cnts, kdT, c_14, c_29, c_37, c_46]), rfl, rfl⟩
theorem dX8_counted_0 : decode cX8_counted 0 = .ok (.iconst 0, 1) := by decide +kernel
theorem dX8_counted_1 : decode cX8_counted 1 = .ok (.istore_n 2, 1) := by decide +kernel
theorem dX8_counted_2 : decode cX8_counted 2 = .ok (.iconst 0, 1) := by decide +kernel
theorem dX8_counted_3 : decode cX8_counted 3 = .ok (.istore_n 3, 1) := by decide +kernel
theorem dX8_counted_4 : decode cX8_counted 4 = .ok (.iload_n 3, 1) := by decide +kernel
theorem dX8_counted_5 : decode cX8_counted 5 = .ok (.aload_n 0, 1) := by decide +kernel
theorem dX8_counted_6 : decode cX8_counted 6 = .ok (.getfield 81, 3) := by decide +kernel
theorem dX8_counted_9 : decode cX8_counted 9 = .ok (.if_icmp .ge 26, 3) := by decide +kernel
theorem dX8_counted_12 : decode cX8_counted 12 = .ok (.iload_n 2, 1) := by decide +kernel
theorem dX8_counted_13 : decode cX8_counted 13 = .ok (.aload_n 0, 1) := by decide +kernel
theorem dX8_counted_14 : decode cX8_counted 14 = .ok (.iload_n 1, 1) := by decide +kernel
theorem dX8_counted_15 : decode cX8_counted 15 = .ok (.iload_n 3, 1) := by decide +kernel
theorem dX8_counted_16 : decode cX8_counted 16 = .ok (.invokevirtual 98, 3) := by decide +kernel
theorem dX8_counted_19 : decode cX8_counted 19 = .ok (.ifCond .eq 7, 3) := by decide +kernel
theorem dX8_counted_22 : decode cX8_counted 22 = .ok (.iconst 1, 1) := by decide +kernel
theorem dX8_counted_23 : decode cX8_counted 23 = .ok (.goto 4, 3) := by decide +kernel
theorem dX8_counted_26 : decode cX8_counted 26 = .ok (.iconst 0, 1) := by decide +kernel
theorem dX8_counted_27 : decode cX8_counted 27 = .ok (.iadd, 1) := by decide +kernel
theorem dX8_counted_28 : decode cX8_counted 28 = .ok (.istore_n 2, 1) := by decide +kernel
theorem dX8_counted_29 : decode cX8_counted 29 = .ok (.iinc 3 1, 3) := by decide +kernel
theorem dX8_counted_32 : decode cX8_counted 32 = .ok (.goto (-28), 3) := by decide +kernel
theorem dX8_counted_35 : decode cX8_counted 35 = .ok (.iload_n 2, 1) := by decide +kernel
theorem dX8_counted_36 : decode cX8_counted 36 = .ok (.ireturn, 1) := by decide +kernel
set_option maxHeartbeats 4000000 in
set_option maxRecDepth 100000 in
theorem c_X8_counted (l : Launch) (E : State) (G : kG) (S T : kSt) (o : Int64) (ad : kAd) (a : Nat) (ha : a < 80) (hT : T.2 0 0 ≤ 12) : Met l yX8_counted (.code yX8_counted cX8_counted 4 (some .int) :: wsL_law) ({ frames := 3, cells := 0, slots := 0, locals := 52 } : Room) (va_Pc [.ref (ad 16 0), .int (nI a)] (kPre E G ad (cto G S T o ad))) (kQi E G (fun r ad1 ct1 => r = nI (cntN T (kdT T a) (T.2 0 0)) ∧ ad = ad1 ∧ ct1 = cto G S T o ad)) 0 0 (kB E.heap.size) := by
  refine Met.ofW (cc := cX8_counted) (maxL := 4) (ret := (some .int)) (by decide) rfl ?_
  intro p e s m args below meth c s₁ B hml hv
  obtain ⟨rfl, hM, hK, hW0⟩ := hv
  have hlocks := B.notSynchronized
  have hr := B.returns
  have Z : kZ p m c cX8_counted 4 s _ wsL_law RX8 E G := ⟨⟨B.exec, B.bytes, hml, findClass_of_methodNamed B.named, fun w h => atoms_spec (ws := .code yX8_counted cX8_counted 4 (some .int) :: wsL_law) B.pre w (List.mem_cons_of_mem _ h)⟩, hM, hK⟩
  have hx := Z.1.1
  have hb := Z.1.2.1
  have X := kX.of hW0
  have hl := lv_entry ([.ref (ad 16 0), .int (nI a)]) (n := 4) (Nat.le_of_ble_eq_true rfl)
  rw [lg_entry_eq]
  generalize (lg_sl ([.ref (ad 16 0), .int (nI a)]) ++ List.replicate (4 - (lg_sl ([.ref (ad 16 0), .int (nI a)])).length) Slot.unset).toArray = ls at hl ⊢
  have hl : lv_has ls 4 [(0, .ref (ad 16 0)), (1, .int (nI a))] := hl
  refine lv_iconst (v := 0) hx hb dX8_counted_0 (by decide) ?_
  refine lv_istore_n (lv' := [(2, .int 0), (0, .ref (ad 16 0)), (1, .int (nI a))]) hx hb dX8_counted_1 rfl hl (by decide) rfl (fun ls hl => ?_)
  refine lv_iconst (v := 0) hx hb dX8_counted_2 (by decide) ?_
  refine lv_istore_n (lv' := [(3, .int 0), (2, .int 0), (0, .ref (ad 16 0)), (1, .int (nI a))]) hx hb dX8_counted_3 rfl hl (by decide) rfl (fun ls hl => ?_)
  have LOOP_4 : ∀ (d : Nat) (n : Nat), n ≤ T.2 0 0 → T.2 0 0 < n + d → ∀ (H : Heap) (locs : List Loc) (ls : Array Slot), kX E G s H locs ad (cto G S T o ad) → lv_has ls 4 [(3, .int (nI n)), (2, .int (nI (cntN T (kdT T a) n))), (0, .ref (ad 16 0)), (1, .int (nI a))] → W p l e (headSpec (Cond.code yX8_counted cX8_counted 4 (some .int) :: wsL_law) ({ frames := 3, cells := 0, slots := 0, locals := 52 } : Room)).room s m ([.ref (ad 16 0), .int (nI a)] : List Value).toArray below meth c H locs 0 0 (MQ below (kQi E G (fun r ad1 ct1 => r = nI (cntN T (kdT T a) (T.2 0 0)) ∧ ad = ad1 ∧ ct1 = cto G S T o ad)) ([.ref (ad 16 0), .int (nI a)] : List Value).toArray s 0 0 (kB E.heap.size)) (F0 m 4 ls []) := by
    intro d
    induction d with
    | zero => intro n h1 h2; intros; exact absurd h2 (by omega)
    | succ d ih =>
      intro n h1 h2 H locs ls X hl
      refine lv_iload_n hx hb dX8_counted_4 rfl (lv_at hl 0 rfl) ?_
      refine lv_aload_n hx hb dX8_counted_5 rfl (lv_at hl 2 rfl) ?_
      refine k_get (index := 81) (j := 1) (ad := ad) (k := 16) (i := 0) Z X ct_16 inlX8 rfl (by decide) (inU_8 _ (List.mem_of_getElem? (i := 19) rfl)) (fun _ h => h) rfl dX8_counted_6 ?_
      refine lv_icmp_ge (tgt := 35) hx hb dX8_counted_9 (by decide) (fun c_9 => ?_) (fun c_9 => ?_)
      · have c_9 : (T.2 0 0) ≤ n := (nI_leI (a := (T.2 0 0)) (b := n) (by omega) (by omega)).mp c_9
        refine lv_iload_n hx hb dX8_counted_35 rfl (lv_at hl 1 rfl) ?_
        have hn : n = T.2 0 0 := by omega
        subst hn
        exact k_iret Z X hr hlocks rfl (Nat.le_of_ble_eq_true rfl) (Nat.le_of_ble_eq_true rfl) dX8_counted_36 ⟨rfl, rfl, rfl⟩
      · have c_9 : ¬ (T.2 0 0) ≤ n := fun h => c_9 ((nI_leI (a := (T.2 0 0)) (b := n) (by omega) (by omega)).mpr h)
        refine lv_iload_n hx hb dX8_counted_12 rfl (lv_at hl 1 rfl) ?_
        refine lv_aload_n hx hb dX8_counted_13 rfl (lv_at hl 2 rfl) ?_
        refine lv_iload_n hx hb dX8_counted_14 rfl (lv_at hl 3 rfl) ?_
        refine lv_iload_n hx hb dX8_counted_15 rfl (lv_at hl 0 rfl) ?_
        refine k_Ri X (k_runV (As := [.int (nI a), .int (nI n)]) (rest := [.int (nI (cntN T (kdT T a) n))]) Z X (c_X8_counts l E G S T o ad a n ha (by omega)) (k_cwV 2 Z.1.2.2.2.2 (inU_12 _ (List.mem_of_getElem? (i := 22) rfl)) (inU_12 _ (List.mem_of_getElem? (i := 23) rfl)) (inU_13 _ (List.mem_of_getElem? (i := 0) rfl)) (inU_1 _ (List.mem_of_getElem? (i := 5) rfl)) (inU_13 _ (List.mem_of_getElem? (i := 1) rfl)) rfl rfl (by decide +kernel) ⟨Nat.le_of_ble_eq_true rfl, Nat.le_of_ble_eq_true rfl⟩) (k_recv Z X ct_16 rfl) rfl hl.1 rfl (Nat.le_of_ble_eq_true rfl) dX8_counted_16 ⟨Nat.le_of_ble_eq_true rfl, Nat.le_of_ble_eq_true rfl⟩) (fun r_16 ad1 ct1 H locs hp X => ?_)
        obtain ⟨rfl, rfl, rfl⟩ := hp
        refine lv_if_eq (tgt := 26) hx hb dX8_counted_19 (by decide) (fun c_19 => ?_) (fun c_19 => ?_)
        · have c_19 : (cnts T (kdT T a) n) = false := bI_0 c_19
          refine lv_iconst (v := 0) hx hb dX8_counted_26 (by decide) ?_
          refine lv_iadd hx hb dX8_counted_27 ?_
          refine lv_topi (fun x_27 e_27 => ?_)
          obtain rfl : x_27 = nI (cntN T (kdT T a) (n + 1)) := e_27.trans (by simp [cntN, c_19, nI_1])
          refine lv_istore_n (lv' := [(2, .int (nI (cntN T (kdT T a) (n + 1)))), (3, .int (nI n)), (0, .ref (ad 16 0)), (1, .int (nI a))]) hx hb dX8_counted_28 rfl hl (by decide) rfl (fun ls hl => ?_)
          refine lv_iinc (v := (nI (n + 1))) (lv' := [(3, .int (nI (n + 1))), (2, .int (nI (cntN T (kdT T a) (n + 1)))), (0, .ref (ad 16 0)), (1, .int (nI a))]) hx hb dX8_counted_29 hl (k := 1) rfl (nI_1 _) (by decide) rfl (fun ls hl => ?_)
          refine lv_goto (tgt := 4) hx hb dX8_counted_32 (by decide) ?_
          exact ih (n + 1) (by omega) (by omega) _ _ _ X (lv_sub hl [0, 1, 2, 3] rfl)
        · have c_19 : (cnts T (kdT T a) n) = true := bI_1 c_19
          refine lv_iconst (v := 1) hx hb dX8_counted_22 (by decide) ?_
          refine lv_goto (tgt := 27) hx hb dX8_counted_23 (by decide) ?_
          refine lv_iadd hx hb dX8_counted_27 ?_
          refine lv_topi (fun x_27 e_27 => ?_)
          obtain rfl : x_27 = nI (cntN T (kdT T a) (n + 1)) := e_27.trans (by simp [cntN, c_19, nI_1])
          refine lv_istore_n (lv' := [(2, .int (nI (cntN T (kdT T a) (n + 1)))), (3, .int (nI n)), (0, .ref (ad 16 0)), (1, .int (nI a))]) hx hb dX8_counted_28 rfl hl (by decide) rfl (fun ls hl => ?_)
          refine lv_iinc (v := (nI (n + 1))) (lv' := [(3, .int (nI (n + 1))), (2, .int (nI (cntN T (kdT T a) (n + 1)))), (0, .ref (ad 16 0)), (1, .int (nI a))]) hx hb dX8_counted_29 hl (k := 1) rfl (nI_1 _) (by decide) rfl (fun ls hl => ?_)
          refine lv_goto (tgt := 4) hx hb dX8_counted_32 (by decide) ?_
          exact ih (n + 1) (by omega) (by omega) _ _ _ X (lv_sub hl [0, 1, 2, 3] rfl)
  exact LOOP_4 (T.2 0 0 + 1) 0 (by omega) (by omega) _ _ _ X (lv_sub hl [0, 1, 2, 3] rfl)
