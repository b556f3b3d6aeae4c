theorem dX8_thrown_0 : decode cX8_thrown 0 = .ok (.aload_n 0, 1) := by decide +kernel
theorem dX8_thrown_1 : decode cX8_thrown 1 = .ok (.getfield 77, 3) := by decide +kernel
theorem dX8_thrown_4 : decode cX8_thrown 4 = .ok (.ireturn, 1) := by decide +kernel
set_option maxHeartbeats 4000000 in
set_option maxRecDepth 100000 in
theorem c_X8_thrown (l : Launch) (E : State) (G : kG) (S T : kSt) (o : Int64) (ad : kAd) : Met l yX8_thrown (.code yX8_thrown cX8_thrown 1 (some .int) :: wsL_law) ({ frames := 1, cells := 0, slots := 0, locals := 8 } : Room) (va_Pc [.ref (ad 16 0)] (kPre E G ad (cto G S T o ad))) (kQi E G (fun r ad1 ct1 => r = T.1 24 0 ∧ ad = ad1 ∧ ct1 = cto G S T o ad)) 0 0 (kB E.heap.size) := by
  refine Met.ofW (cc := cX8_thrown) (maxL := 1) (ret := (some .int)) (by decide) rfl ?_
  intro p e s m args below meth c s₁ B hml hv
  obtain ⟨rfl, hM, hK, hW0⟩ := hv
  have hlocks := B.notSynchronized
  have hr := B.returns
  have Z : kZ p m c cX8_thrown 1 s _ wsL_law RX8 E G := ⟨⟨B.exec, B.bytes, hml, findClass_of_methodNamed B.named, fun w h => atoms_spec (ws := .code yX8_thrown cX8_thrown 1 (some .int) :: wsL_law) B.pre w (List.mem_cons_of_mem _ h)⟩, hM, hK⟩
  have hx := Z.1.1
  have hb := Z.1.2.1
  have X := kX.of hW0
  have hl := lv_entry ([.ref (ad 16 0)]) (n := 1) (Nat.le_of_ble_eq_true rfl)
  rw [lg_entry_eq]
  generalize (lg_sl ([.ref (ad 16 0)]) ++ List.replicate (1 - (lg_sl ([.ref (ad 16 0)])).length) Slot.unset).toArray = ls at hl ⊢
  have hl : lv_has ls 1 [(0, .ref (ad 16 0))] := hl
  refine lv_aload_n hx hb dX8_thrown_0 rfl (lv_at hl 0 rfl) ?_
  refine k_get (index := 77) (j := 28) (ad := ad) (k := 16) (i := 0) Z X ct_16 inlX8 rfl (by decide) (inU_9 _ (List.mem_of_getElem? (i := 6) rfl)) (fun _ h => h) rfl dX8_thrown_1 ?_
  exact k_iret Z X hr hlocks rfl (Nat.le_of_ble_eq_true rfl) (Nat.le_of_ble_eq_true rfl) dX8_thrown_4 ⟨rfl, rfl, rfl⟩
theorem st_thrown {G : kG} {S T : kSt} {o : Int64} {ad : kAd} (v : Int32) : cup (cto G S T o ad) 16 0 (.inr (11, [.int (T.1 0 0), .int (nI (T.2 0 0)), .ref (ad 17 0), .ref (ad 17 1), .ref (ad 17 2), .ref (ad 17 3), .int (nI (T.2 0 1)), .ref (ad 17 4), .ref (ad 17 5), .ref (ad 17 6), .ref (ad 17 7), .ref (ad 17 8), .ref (ad 17 9), .ref (ad 17 10), .ref (ad 17 11), .int (nI (T.2 0 2)), .ref (ad 17 12), .ref (ad 17 13), .ref (ad 17 14), .ref (ad 17 15), .int (nI (T.2 0 3)), .ref (ad 17 16), .ref (ad 17 17), .ref (ad 17 18), .ref (ad 17 19), .ref (ad 17 20), .ref (ad 17 21), .int (nI (T.2 0 5)), .int v])) = cto G S (sI T 24 0 v) o ad := by
  funext k i
  match k with
  | 0 => simp [cup, cto, sI]
  | 1 => simp [cup, cto, sI]
  | 2 => simp [cup, cto, sI]
  | 3 => simp [cup, cto, sI]
  | 4 => simp [cup, cto, sI]
  | 5 => simp [cup, cto, sI]
  | 6 => simp [cup, cto, sI]
  | 7 => simp [cup, cto, sI]
  | 8 => simp [cup, cto, sI]
  | 9 => simp [cup, cto, sI]
  | 10 => simp [cup, cto, sI]
  | 11 => simp [cup, cto, sI]
  | 12 => simp [cup, cto, sI]
  | 13 => simp [cup, cto, sI]
  | 14 => simp [cup, cto, sI]
  | 15 => simp [cup, cto, sI]
  | 16 => by_cases h : i = 0 <;> simp [cup, cto, sI, h]
  | 17 => simp only [cup, cto, marr, sI]; simp
  | 18 => simp [cup, cto, sI]
  | _ + 19 => simp [cup, cto]
theorem dX8_fails_0 : decode cX8_fails 0 = .ok (.aload_n 0, 1) := by decide +kernel
theorem dX8_fails_1 : decode cX8_fails 1 = .ok (.iload_n 1, 1) := by decide +kernel
theorem dX8_fails_2 : decode cX8_fails 2 = .ok (.putfield 77, 3) := by decide +kernel
theorem dX8_fails_5 : decode cX8_fails 5 = .ok (.iload_n 1, 1) := by decide +kernel
theorem dX8_fails_6 : decode cX8_fails 6 = .ok (.ifCond .le 7, 3) := by decide +kernel
theorem dX8_fails_9 : decode cX8_fails 9 = .ok (.iconst 1, 1) := by decide +kernel
theorem dX8_fails_10 : decode cX8_fails 10 = .ok (.goto 4, 3) := by decide +kernel
theorem dX8_fails_13 : decode cX8_fails 13 = .ok (.iconst 0, 1) := by decide +kernel
theorem dX8_fails_14 : decode cX8_fails 14 = .ok (.ireturn, 1) := by decide +kernel
set_option maxHeartbeats 4000000 in
set_option maxRecDepth 100000 in
theorem c_X8_fails (l : Launch) (E : State) (G : kG) (S T : kSt) (o : Int64) (ad : kAd) (x : Int32) : Met l yX8_fails (.code yX8_fails cX8_fails 2 (some .boolean) :: wsL_law) ({ frames := 1, cells := 0, slots := 0, locals := 8 } : Room) (va_Pc [.ref (ad 16 0), .int x] (kPre E G ad (cto G S T o ad))) (kQi E G (fun r ad1 ct1 => r = bI (decide (0 < x)) ∧ ad = ad1 ∧ ct1 = cto G S (sI T 24 0 x) o ad)) 0 0 (kB E.heap.size) := by
  refine Met.ofW (cc := cX8_fails) (maxL := 2) (ret := (some .boolean)) (by decide) rfl ?_
  intro p e s m args below meth c s₁ B hml hv
  obtain ⟨rfl, hM, hK, hW0⟩ := hv
  have hlocks := B.notSynchronized
  have hr := B.returns
  have Z : kZ p m c cX8_fails 2 s _ wsL_law RX8 E G := ⟨⟨B.exec, B.bytes, hml, findClass_of_methodNamed B.named, fun w h => atoms_spec (ws := .code yX8_fails cX8_fails 2 (some .boolean) :: wsL_law) B.pre w (List.mem_cons_of_mem _ h)⟩, hM, hK⟩
  have hx := Z.1.1
  have hb := Z.1.2.1
  have X := kX.of hW0
  have hl := lv_entry ([.ref (ad 16 0), .int x]) (n := 2) (Nat.le_of_ble_eq_true rfl)
  rw [lg_entry_eq]
  generalize (lg_sl ([.ref (ad 16 0), .int x]) ++ List.replicate (2 - (lg_sl ([.ref (ad 16 0), .int x])).length) Slot.unset).toArray = ls at hl ⊢
  have hl : lv_has ls 2 [(0, .ref (ad 16 0)), (1, .int x)] := hl
  refine lv_aload_n hx hb dX8_fails_0 rfl (lv_at hl 0 rfl) ?_
  refine lv_iload_n hx hb dX8_fails_1 rfl (lv_at hl 1 rfl) ?_
  refine k_put (index := 77) (j := 28) (k := 16) (i := 0) Z X ct_16 inlX8 tyX8_ok nmX8 rfl (by decide) (inU_9 _ (List.mem_of_getElem? (i := 6) rfl)) (fun _ h => h) rfl (Nat.le_of_ble_eq_true rfl) rfl rfl dX8_fails_2 (fun H locs X => ?_)
  have X : kX E G s H locs ad (cto G S (sI T 24 0 x) o ad) := X.eq (st_thrown x)
  refine lv_iload_n hx hb dX8_fails_5 rfl (lv_at hl 1 rfl) ?_
  refine lv_if_le (tgt := 13) hx hb dX8_fails_6 (by decide) (fun c_6 => ?_) (fun c_6 => ?_)
  · refine lv_iconst (v := 0) hx hb dX8_fails_13 (by decide) ?_
    exact k_iret Z X hr hlocks rfl (Nat.le_of_ble_eq_true rfl) (Nat.le_of_ble_eq_true rfl) dX8_fails_14 ⟨bI_f (decide_eq_false (Int32.not_lt.mpr c_6)), rfl, rfl⟩
  · refine lv_iconst (v := 1) hx hb dX8_fails_9 (by decide) ?_
    refine lv_goto (tgt := 14) hx hb dX8_fails_10 (by decide) ?_
    exact k_iret Z X hr hlocks rfl (Nat.le_of_ble_eq_true rfl) (Nat.le_of_ble_eq_true rfl) dX8_fails_14 ⟨bI_t (decide_eq_true (Int32.not_le.mp c_6)), rfl, rfl⟩
theorem dX8_isIn_0 : decode cX8_isIn 0 = .ok (.iload_n 0, 1) := by decide +kernel
theorem dX8_isIn_1 : decode cX8_isIn 1 = .ok (.iload_n 1, 1) := by decide +kernel
theorem dX8_isIn_2 : decode cX8_isIn 2 = .ok (.if_icmp .lt 12, 3) := by decide +kernel
theorem dX8_isIn_5 : decode cX8_isIn 5 = .ok (.iload_n 0, 1) := by decide +kernel
theorem dX8_isIn_6 : decode cX8_isIn 6 = .ok (.iload_n 2, 1) := by decide +kernel
theorem dX8_isIn_7 : decode cX8_isIn 7 = .ok (.if_icmp .gt 7, 3) := by decide +kernel
theorem dX8_isIn_10 : decode cX8_isIn 10 = .ok (.iconst 1, 1) := by decide +kernel
theorem dX8_isIn_11 : decode cX8_isIn 11 = .ok (.goto 4, 3) := by decide +kernel
theorem dX8_isIn_14 : decode cX8_isIn 14 = .ok (.iconst 0, 1) := by decide +kernel
theorem dX8_isIn_15 : decode cX8_isIn 15 = .ok (.ireturn, 1) := by decide +kernel
set_option maxHeartbeats 4000000 in
set_option maxRecDepth 100000 in
theorem c_X8_isIn (l : Launch) (E : State) (G : kG) (S T : kSt) (o : Int64) (ad : kAd) (v a b : Int32) : Met l yX8_isIn (.code yX8_isIn cX8_isIn 3 (some .boolean) :: wsL_law) ({ frames := 1, cells := 0, slots := 0, locals := 8 } : Room) (va_Pc [.int v, .int a, .int b] (kPre E G ad (cto G S T o ad))) (kQi E G (fun r ad1 ct1 => r = bI (decide (a ≤ v) && decide (v ≤ b)) ∧ ad = ad1 ∧ ct1 = cto G S T o ad)) 0 0 (kB E.heap.size) := by
  refine Met.ofW (cc := cX8_isIn) (maxL := 3) (ret := (some .boolean)) (by decide) rfl ?_
  intro p e s m args below meth c s₁ B hml hv
  obtain ⟨rfl, hM, hK, hW0⟩ := hv
  have hlocks := B.notSynchronized
  have hr := B.returns
  have Z : kZ p m c cX8_isIn 3 s _ wsL_law RX8 E G := ⟨⟨B.exec, B.bytes, hml, findClass_of_methodNamed B.named, fun w h => atoms_spec (ws := .code yX8_isIn cX8_isIn 3 (some .boolean) :: wsL_law) B.pre w (List.mem_cons_of_mem _ h)⟩, hM, hK⟩
  have hx := Z.1.1
  have hb := Z.1.2.1
  have X := kX.of hW0
  have hl := lv_entry ([.int v, .int a, .int b]) (n := 3) (Nat.le_of_ble_eq_true rfl)
  rw [lg_entry_eq]
  generalize (lg_sl ([.int v, .int a, .int b]) ++ List.replicate (3 - (lg_sl ([.int v, .int a, .int b])).length) Slot.unset).toArray = ls at hl ⊢
  have hl : lv_has ls 3 [(0, .int v), (1, .int a), (2, .int b)] := hl
  refine lv_iload_n hx hb dX8_isIn_0 rfl (lv_at hl 0 rfl) ?_
  refine lv_iload_n hx hb dX8_isIn_1 rfl (lv_at hl 1 rfl) ?_
  refine lv_icmp_lt (tgt := 14) hx hb dX8_isIn_2 (by decide) (fun c_2 => ?_) (fun c_2 => ?_)
  · refine lv_iconst (v := 0) hx hb dX8_isIn_14 (by decide) ?_
    exact k_iret Z X hr hlocks rfl (Nat.le_of_ble_eq_true rfl) (Nat.le_of_ble_eq_true rfl) dX8_isIn_15 ⟨by first | (rw [decide_eq_false (Int32.not_le.mpr c_2)]; rfl) | (rw [decide_eq_false (Int32.not_le.mpr c_7), Bool.and_false]; rfl), rfl, rfl⟩
  · refine lv_iload_n hx hb dX8_isIn_5 rfl (lv_at hl 0 rfl) ?_
    refine lv_iload_n hx hb dX8_isIn_6 rfl (lv_at hl 2 rfl) ?_
    refine lv_icmp_gt (tgt := 14) hx hb dX8_isIn_7 (by decide) (fun c_7 => ?_) (fun c_7 => ?_)
    · refine lv_iconst (v := 0) hx hb dX8_isIn_14 (by decide) ?_
      exact k_iret Z X hr hlocks rfl (Nat.le_of_ble_eq_true rfl) (Nat.le_of_ble_eq_true rfl) dX8_isIn_15 ⟨by first | (rw [decide_eq_false (Int32.not_le.mpr c_2)]; rfl) | (rw [decide_eq_false (Int32.not_le.mpr c_7), Bool.and_false]; rfl), rfl, rfl⟩
    · refine lv_iconst (v := 1) hx hb dX8_isIn_10 (by decide) ?_
      refine lv_goto (tgt := 15) hx hb dX8_isIn_11 (by decide) ?_
      exact k_iret Z X hr hlocks rfl (Nat.le_of_ble_eq_true rfl) (Nat.le_of_ble_eq_true rfl) dX8_isIn_15 ⟨by rw [decide_eq_true (Int32.not_lt.mp c_2), decide_eq_true (Int32.not_lt.mp c_7)]; rfl, rfl, rfl⟩
