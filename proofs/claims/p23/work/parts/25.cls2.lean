/-! THE CLASS: its private methods -/
def okL (S : kSt) : Prop := ∀ li, li < 5 → lcnt S li ≤ S.2 6 li ∧ S.2 6 li ≤ 120 ∧ (S.2 6 li = 0 ∨ 10 ≤ S.2 6 li)
theorem okL_c {S S' : kSt} (h : S'.2 = S.2) (hL : okL S) : okL S' := by
  intro li hi
  rw [lcnt_c (S := S) (S' := S') (by rw [h]), h]
  exact hL li hi
theorem okN_c {S S' : kSt} (h : S'.2 = S.2) (hS : okN S) : okN S' := by simp only [okN, h]; exact hS
def okK (S : kSt) : Prop := ∀ a u, a < S.2 0 1 → u < 12 → kdS S a u = -1 ∨ kdS S a u = 0 ∨ kdS S a u = 1
theorem ct_1' {G : kG} {S T : kSt} {o : Int64} {ad : kAd} {i : Nat} (h : i < 5) (h0 : S.2 6 i ≠ 0) : cto G S T o ad 1 i = some (.inr (2, [.int (S.1 19 i), .ref (ad 2 i), .int (nI (lcnt S i))])) := by rw [ct_1 h, if_neg h0]
theorem inB_neg {x : Int32} {n : Nat} (h : x < 0) : inB x n = false := by
  have : ¬ 0 ≤ x.toInt := by have := Int32.lt_iff_toInt_lt.mp h; simp at this; omega
  simp [inB, this]
theorem inB_big {x : Int32} {n : Nat} (hn : n < 2 ^ 31) (h : ¬ x < nI n) : inB x n = false := by
  have h1 := Int32.le_iff_toInt_le.mp (Int32.not_lt.mp h)
  rw [nI_toInt hn] at h1
  have : ¬ x.toInt < n := by omega
  simp [inB, this]
theorem inR_0 {v a b : Int32} (h : v < a) : inR v a b = false := by simp only [inR, decide_eq_false (Int32.not_le.mpr h), Bool.false_and]
theorem inR_1 {v a b : Int32} (h : ¬ v ≤ b) : inR v a b = false := by simp only [inR, decide_eq_false h, Bool.and_false]
theorem inR_t {v a b : Int32} (h : ¬ v < a) (h2 : v ≤ b) : inR v a b = true := by simp only [inR, decide_eq_true (Int32.not_lt.mp h), decide_eq_true h2, Bool.and_self]
theorem cnts_f {S : kSt} {kd : Nat → Int32} {u : Nat} (h : (decide (S.1 1 u ≠ 0) && !gone S u) = false) : cnts S kd u = false := by
  simp only [cnts]
  rw [Bool.and_comm (!gone S u), h, Bool.and_false]
theorem cnts_n {S : kSt} {kd : Nat → Int32} {u : Nat} (h : kd u = -1) : cnts S kd u = false := by simp [cnts, h]
theorem cnts_t {S : kSt} {kd : Nat → Int32} {u : Nat} (h1 : ¬ kd u = -1) (h : (decide (S.1 1 u ≠ 0) && !gone S u) = true) : cnts S kd u = true := by
  simp only [cnts]
  rw [Bool.and_comm (!gone S u), h, decide_eq_true h1]
  rfl
theorem isY_f {S : kSt} {kd : Nat → Int32} {a u : Nat} (h : cnts S kd u = false) : isY S kd a u = false := by simp [isY, h]
theorem bar_m {S : kSt} {kd : Nat → Int32} : ∀ {n k : Nat}, bar S kd k = true → k ≤ n → bar S kd n = true
  | 0, k, h, hk => by rw [show k = 0 by omega] at h; exact h
  | n + 1, k, h, hk => by
    by_cases e : k = n + 1
    · rw [← e]; exact h
    · simp only [bar, bar_m (n := n) h (by omega), Bool.true_or]
theorem noSp_m {S : kSt} {m : Nat} : ∀ {n k : Nat}, noSp S m k = false → k ≤ n → noSp S m n = false
  | 0, k, h, hk => by rw [show k = 0 by omega] at h; exact h
  | n + 1, k, h, hk => by
    by_cases e : k = n + 1
    · rw [← e]; exact h
    · simp only [noSp, noSp_m (n := n) h (by omega), Bool.false_and]
theorem noTk_m {S : kSt} {m : Nat} : ∀ {n k : Nat}, noTk S m k = false → k ≤ n → noTk S m n = false
  | 0, k, h, hk => by rw [show k = 0 by omega] at h; exact h
  | n + 1, k, h, hk => by
    by_cases e : k = n + 1
    · rw [← e]; exact h
    · simp only [noTk, noTk_m (n := n) h (by omega), Bool.false_and]
theorem noRp_m {S : kSt} {m : Nat} : ∀ {n k : Nat}, noRp S m k = false → k ≤ n → noRp S m n = false
  | 0, k, h, hk => by rw [show k = 0 by omega] at h; exact h
  | n + 1, k, h, hk => by
    by_cases e : k = n + 1
    · rw [← e]; exact h
    · simp only [noRp, noRp_m (n := n) h (by omega), Bool.false_and]
theorem c_getS (l : Launch) (E : State) (G : kG) (S T : kSt) (o : Int64) (ad : kAd) (li i : Nat) (hli : li < 5) (hL : okL S) (hi : i < lcnt S li) : Met l yJx4a65c_get_915e3 (.code yJx4a65c_get_915e3 cJx4a65c_get_915e3 2 (some (.object "java/lang/Object")) :: wsL_law) ({ frames := 3, cells := 0, slots := 0, locals := 70 } : Room) (va_Pc [.ref (ad 1 li), .int (nI i)] (kPre E G ad (cto G S T o ad))) (kQq E G (fun r ad1 ct1 => r = some (ad (lknd li) i) ∧ ad = ad1 ∧ ct1 = cto G S T o ad)) 0 0 (kB E.heap.size) := by
  obtain ⟨h1, h2, h3⟩ := hL li hli
  have h0 : S.2 6 li ≠ 0 := by omega
  have h := c_Jx4a65c_get_915e3 l E G ad (cto G S T o ad) li (lcnt S li) (S.2 6 li) i (.int (S.1 19 li)) (fun j => if j < lcnt S li then some (ad (lknd li) j) else none) (ct_1' hli h0) (ct_2 hli h0) hi h1 (by omega)
  simp only [if_pos hi] at h
  exact h
theorem dX7_userAt_0 : decode cX7_userAt 0 = .ok (.iload_n 1, 1) := by decide +kernel
theorem dX7_userAt_1 : decode cX7_userAt 1 = .ok (.ifCond .lt 14, 3) := by decide +kernel
theorem dX7_userAt_4 : decode cX7_userAt 4 = .ok (.iload_n 1, 1) := by decide +kernel
theorem dX7_userAt_5 : decode cX7_userAt 5 = .ok (.aload_n 0, 1) := by decide +kernel
theorem dX7_userAt_6 : decode cX7_userAt 6 = .ok (.getfield 25, 3) := by decide +kernel
theorem dX7_userAt_9 : decode cX7_userAt 9 = .ok (.invokevirtual 59, 3) := by decide +kernel
theorem dX7_userAt_12 : decode cX7_userAt 12 = .ok (.if_icmp .lt 14, 3) := by decide +kernel
theorem dX7_userAt_15 : decode cX7_userAt 15 = .ok (.new 251, 3) := by decide +kernel
theorem dX7_userAt_18 : decode cX7_userAt 18 = .ok (.dup, 1) := by decide +kernel
theorem dX7_userAt_19 : decode cX7_userAt 19 = .ok (.ldc_w 279, 3) := by decide +kernel
theorem dX7_userAt_22 : decode cX7_userAt 22 = .ok (.invokespecial 255, 3) := by decide +kernel
theorem dX7_userAt_25 : decode cX7_userAt 25 = .ok (.athrow, 1) := by decide +kernel
theorem dX7_userAt_26 : decode cX7_userAt 26 = .ok (.aload_n 0, 1) := by decide +kernel
theorem dX7_userAt_27 : decode cX7_userAt 27 = .ok (.getfield 25, 3) := by decide +kernel
theorem dX7_userAt_30 : decode cX7_userAt 30 = .ok (.iload_n 1, 1) := by decide +kernel
theorem dX7_userAt_31 : decode cX7_userAt 31 = .ok (.invokevirtual 210, 3) := by decide +kernel
theorem dX7_userAt_34 : decode cX7_userAt 34 = .ok (.checkcast 67, 3) := by decide +kernel
theorem dX7_userAt_37 : decode cX7_userAt 37 = .ok (.areturn, 1) := by decide +kernel
set_option maxHeartbeats 4000000 in
set_option maxRecDepth 100000 in
theorem c_X7_userAt (l : Launch) (E : State) (G : kG) (S T : kSt) (o : Int64) (ad : kAd) (x9 : Int32) (hE : kE l E G) (hS : okN S) (hL : okL S) : vx_Met l yX7_userAt (.code yX7_userAt cX7_userAt 2 (some (.object "MarkChat$User")) :: wsL_law) ({ frames := 6, cells := 1, slots := 6, locals := 150 } : Room) (va_Pc [.ref (ad 0 0), .int x9] (kPre E G ad (cto G S T o ad))) (kQq E G (fun r ad1 ct1 => (∃ j : Nat, j < (S.2 0 0) ∧ x9 = nI j ∧ r = some (ad 4 j)) ∧ ad = ad1 ∧ ct1 = cto G S T o ad)) (kXC E G (fun x ad1 ct1 => (x = "java/lang/IndexOutOfBoundsException" ∧ inB x9 (S.2 0 0) = false) ∧ ad = ad1 ∧ ct1 = cto G S T o ad)) 1 6 (kB E.heap.size) := by
  refine vx_ofW (cc := cX7_userAt) (maxL := 2) (ret := (some (.object "MarkChat$User"))) (by decide) rfl ?_
  intro p e s m args below meth c s₁ B hml hout hv
  obtain ⟨rfl, hM, hK, hW0⟩ := hv
  have hlocks := B.notSynchronized
  have hr := B.returns
  have Z : kZ p m c cX7_userAt 2 s _ wsL_law RX7 E G := ⟨⟨B.exec, B.bytes, hml, findClass_of_methodNamed B.named, fun w h => atoms_spec (ws := .code yX7_userAt cX7_userAt 2 (some (.object "MarkChat$User")) :: wsL_law) B.pre w (List.mem_cons_of_mem _ h)⟩, hM, hK⟩
  have hx := Z.1.1
  have hb := Z.1.2.1
  have X := kX.of hW0
  have hl := lv_entry ([.ref (ad 0 0), .int x9]) (n := 2) (Nat.le_of_ble_eq_true rfl)
  rw [lg_entry_eq]
  generalize (lg_sl ([.ref (ad 0 0), .int x9]) ++ List.replicate (2 - (lg_sl ([.ref (ad 0 0), .int x9])).length) Slot.unset).toArray = ls at hl ⊢
  have hl : lv_has ls 2 [(0, .ref (ad 0 0)), (1, .int x9)] := hl
  obtain ⟨hT1, hT2, hT3, hT4, hT5, hT6, hT7⟩ := id hS
  refine lv_iload_n hx hb dX7_userAt_0 rfl (lv_at hl 1 rfl) ?_
  refine lv_if_lt (tgt := 15) hx hb dX7_userAt_1 (by decide) (fun c_1 => ?_) (fun c_1 => ?_)
  · exact k_throwW hE Z X hout hlocks hl.1 kThr_IOO (inU_7 _ (List.mem_of_getElem? (i := 22) rfl)) (inU_7 _ (List.mem_of_getElem? (i := 23) rfl)) (text := "no such user") (List.mem_of_getElem? (i := 13) rfl) dX7_userAt_15 dX7_userAt_18 dX7_userAt_19 dX7_userAt_22 dX7_userAt_25 (Nat.le_of_ble_eq_true rfl) ⟨(Nat.le_of_ble_eq_true rfl), (Nat.le_of_ble_eq_true rfl), (Nat.le_of_ble_eq_true rfl), (Nat.le_of_ble_eq_true rfl)⟩ ⟨(Nat.le_of_ble_eq_true rfl), (Nat.le_of_ble_eq_true rfl)⟩ ⟨(Nat.le_of_ble_eq_true rfl), (Nat.le_of_ble_eq_true rfl)⟩ ⟨⟨rfl, inB_neg c_1⟩, rfl, rfl⟩
  · refine lv_iload_n hx hb dX7_userAt_4 rfl (lv_at hl 1 rfl) ?_
    refine lv_aload_n hx hb dX7_userAt_5 rfl (lv_at hl 0 rfl) ?_
    refine k_get (index := 25) (j := 1) (ad := ad) (k := 0) (i := 0) Z X ct_0 inlX7 rfl (by decide) (inU_1 _ (List.mem_of_getElem? (i := 22) rfl)) (fun _ h => h) (v := .ref (ad 1 1)) rfl dX7_userAt_6 ?_
    refine k_Ri X (k_runV (As := []) (rest := [.int x9]) Z X (c_Jx4a65c_size_8abf5 l E G ad (cto G S T o ad) 1 _ _ (nI (S.2 0 0)) (ct_1 (by decide))) (k_cwV 0 Z.1.2.2.2.2 (inU_6 _ (List.mem_of_getElem? (i := 21) rfl)) (inU_6 _ (List.mem_of_getElem? (i := 22) rfl)) (inU_6 _ (List.mem_of_getElem? (i := 23) rfl)) (inU_1 _ (List.mem_of_getElem? (i := 17) rfl)) (inU_7 _ (List.mem_of_getElem? (i := 0) rfl)) rfl rfl (by decide +kernel) ⟨Nat.le_of_ble_eq_true rfl, Nat.le_of_ble_eq_true rfl⟩) (k_recv Z X (ct_1 (by decide)) rfl) rfl hl.1 rfl (Nat.le_of_ble_eq_true rfl) dX7_userAt_9 ⟨(by first | exact Nat.le_of_ble_eq_true rfl | (show _ ≤ (_ : Nat); simp only [headSpec]; omega)), (by first | exact Nat.le_of_ble_eq_true rfl | (show _ ≤ (_ : Nat); simp only [headSpec]; omega))⟩) (fun r_9 ad1 ct1 H locs hp X => ?_)
    obtain ⟨rfl, ha_, hb_⟩ := hp
    rw [← ha_, hb_] at X
    refine lv_icmp_lt (tgt := 26) hx hb dX7_userAt_12 (by decide) (fun c_12 => ?_) (fun c_12 => ?_)
    · obtain ⟨j, hj31, rfl⟩ := nI_of c_1
      have hj : j < (S.2 0 0) := (nI_ltI hj31 (by omega)).mp c_12
      refine lv_aload_n hx hb dX7_userAt_26 rfl (lv_at hl 0 rfl) ?_
      refine k_get (index := 25) (j := 1) (ad := ad) (k := 0) (i := 0) Z X ct_0 inlX7 rfl (by decide) (inU_1 _ (List.mem_of_getElem? (i := 22) rfl)) (fun _ h => h) (v := .ref (ad 1 1)) rfl dX7_userAt_27 ?_
      refine lv_iload_n hx hb dX7_userAt_30 rfl (lv_at hl 1 rfl) ?_
      refine k_Rq X (k_runV (As := [.int (nI j)]) (rest := []) Z X (c_getS l E G S T o ad 1 j (by decide) hL (by show _ < (_ : Nat); simp only [lcnt]; omega)) (k_cwV 1 Z.1.2.2.2.2 (inU_8 _ (List.mem_of_getElem? (i := 1) rfl)) (inU_8 _ (List.mem_of_getElem? (i := 2) rfl)) (inU_8 _ (List.mem_of_getElem? (i := 3) rfl)) (inU_1 _ (List.mem_of_getElem? (i := 17) rfl)) (inU_8 _ (List.mem_of_getElem? (i := 4) rfl)) rfl rfl (by decide +kernel) ⟨Nat.le_of_ble_eq_true rfl, Nat.le_of_ble_eq_true rfl⟩) (k_recv Z X (ct_1 (by decide)) rfl) rfl hl.1 rfl (Nat.le_of_ble_eq_true rfl) dX7_userAt_31 ⟨(by first | exact Nat.le_of_ble_eq_true rfl | (show _ ≤ (_ : Nat); simp only [headSpec]; omega)), (by first | exact Nat.le_of_ble_eq_true rfl | (show _ ≤ (_ : Nat); simp only [headSpec]; omega))⟩) (fun r_31 ad1 ct1 H locs hp X => ?_)
      obtain ⟨rfl, ha_, hb_⟩ := hp
      rw [← ha_, hb_] at X
      refine k_cast (r := (RX6, TX6, 3)) Z X (ct_4 (by first | assumption | omega | decide)) rfl (inU_8 _ (List.mem_of_getElem? (i := 0) rfl)) dX7_userAt_34 ?_
      exact vx_ret (k_aret (some (ad 4 j)) Z X hr hlocks (Or.inl ⟨_, rfl⟩) (Nat.le_of_ble_eq_true rfl) (Nat.le_of_ble_eq_true rfl) dX7_userAt_37 ⟨⟨j, hj, rfl, rfl⟩, rfl, rfl⟩)
    · exact k_throwW hE Z X hout hlocks hl.1 kThr_IOO (inU_7 _ (List.mem_of_getElem? (i := 22) rfl)) (inU_7 _ (List.mem_of_getElem? (i := 23) rfl)) (text := "no such user") (List.mem_of_getElem? (i := 13) rfl) dX7_userAt_15 dX7_userAt_18 dX7_userAt_19 dX7_userAt_22 dX7_userAt_25 (Nat.le_of_ble_eq_true rfl) ⟨(Nat.le_of_ble_eq_true rfl), (Nat.le_of_ble_eq_true rfl), (Nat.le_of_ble_eq_true rfl), (Nat.le_of_ble_eq_true rfl)⟩ ⟨(Nat.le_of_ble_eq_true rfl), (Nat.le_of_ble_eq_true rfl)⟩ ⟨(Nat.le_of_ble_eq_true rfl), (Nat.le_of_ble_eq_true rfl)⟩ ⟨⟨rfl, inB_big (by omega) c_12⟩, rfl, rfl⟩
theorem dX7_channelAt_0 : decode cX7_channelAt 0 = .ok (.iload_n 1, 1) := by decide +kernel
theorem dX7_channelAt_1 : decode cX7_channelAt 1 = .ok (.ifCond .lt 14, 3) := by decide +kernel
theorem dX7_channelAt_4 : decode cX7_channelAt 4 = .ok (.iload_n 1, 1) := by decide +kernel
theorem dX7_channelAt_5 : decode cX7_channelAt 5 = .ok (.aload_n 0, 1) := by decide +kernel
theorem dX7_channelAt_6 : decode cX7_channelAt 6 = .ok (.getfield 10, 3) := by decide +kernel
theorem dX7_channelAt_9 : decode cX7_channelAt 9 = .ok (.invokevirtual 59, 3) := by decide +kernel
theorem dX7_channelAt_12 : decode cX7_channelAt 12 = .ok (.if_icmp .lt 14, 3) := by decide +kernel
theorem dX7_channelAt_15 : decode cX7_channelAt 15 = .ok (.new 251, 3) := by decide +kernel
theorem dX7_channelAt_18 : decode cX7_channelAt 18 = .ok (.dup, 1) := by decide +kernel
theorem dX7_channelAt_19 : decode cX7_channelAt 19 = .ok (.ldc_w 281, 3) := by decide +kernel
theorem dX7_channelAt_22 : decode cX7_channelAt 22 = .ok (.invokespecial 255, 3) := by decide +kernel
theorem dX7_channelAt_25 : decode cX7_channelAt 25 = .ok (.athrow, 1) := by decide +kernel
theorem dX7_channelAt_26 : decode cX7_channelAt 26 = .ok (.aload_n 0, 1) := by decide +kernel
theorem dX7_channelAt_27 : decode cX7_channelAt 27 = .ok (.getfield 10, 3) := by decide +kernel
theorem dX7_channelAt_30 : decode cX7_channelAt 30 = .ok (.iload_n 1, 1) := by decide +kernel
theorem dX7_channelAt_31 : decode cX7_channelAt 31 = .ok (.invokevirtual 210, 3) := by decide +kernel
theorem dX7_channelAt_34 : decode cX7_channelAt 34 = .ok (.checkcast 16, 3) := by decide +kernel
theorem dX7_channelAt_37 : decode cX7_channelAt 37 = .ok (.areturn, 1) := by decide +kernel
set_option maxHeartbeats 4000000 in
set_option maxRecDepth 100000 in
theorem c_X7_channelAt (l : Launch) (E : State) (G : kG) (S T : kSt) (o : Int64) (ad : kAd) (x9 : Int32) (hE : kE l E G) (hS : okN S) (hL : okL S) : vx_Met l yX7_channelAt (.code yX7_channelAt cX7_channelAt 2 (some (.object "MarkChat$Channel")) :: wsL_law) ({ frames := 6, cells := 1, slots := 6, locals := 150 } : Room) (va_Pc [.ref (ad 0 0), .int x9] (kPre E G ad (cto G S T o ad))) (kQq E G (fun r ad1 ct1 => (∃ j : Nat, j < 6 ∧ x9 = nI j ∧ r = some (ad 3 j)) ∧ ad = ad1 ∧ ct1 = cto G S T o ad)) (kXC E G (fun x ad1 ct1 => (x = "java/lang/IndexOutOfBoundsException" ∧ inB x9 6 = false) ∧ ad = ad1 ∧ ct1 = cto G S T o ad)) 1 6 (kB E.heap.size) := by
  refine vx_ofW (cc := cX7_channelAt) (maxL := 2) (ret := (some (.object "MarkChat$Channel"))) (by decide) rfl ?_
  intro p e s m args below meth c s₁ B hml hout hv
  obtain ⟨rfl, hM, hK, hW0⟩ := hv
  have hlocks := B.notSynchronized
  have hr := B.returns
  have Z : kZ p m c cX7_channelAt 2 s _ wsL_law RX7 E G := ⟨⟨B.exec, B.bytes, hml, findClass_of_methodNamed B.named, fun w h => atoms_spec (ws := .code yX7_channelAt cX7_channelAt 2 (some (.object "MarkChat$Channel")) :: wsL_law) B.pre w (List.mem_cons_of_mem _ h)⟩, hM, hK⟩
  have hx := Z.1.1
  have hb := Z.1.2.1
  have X := kX.of hW0
  have hl := lv_entry ([.ref (ad 0 0), .int x9]) (n := 2) (Nat.le_of_ble_eq_true rfl)
  rw [lg_entry_eq]
  generalize (lg_sl ([.ref (ad 0 0), .int x9]) ++ List.replicate (2 - (lg_sl ([.ref (ad 0 0), .int x9])).length) Slot.unset).toArray = ls at hl ⊢
  have hl : lv_has ls 2 [(0, .ref (ad 0 0)), (1, .int x9)] := hl
  obtain ⟨hT1, hT2, hT3, hT4, hT5, hT6, hT7⟩ := id hS
  refine lv_iload_n hx hb dX7_channelAt_0 rfl (lv_at hl 1 rfl) ?_
  refine lv_if_lt (tgt := 15) hx hb dX7_channelAt_1 (by decide) (fun c_1 => ?_) (fun c_1 => ?_)
  · exact k_throwW hE Z X hout hlocks hl.1 kThr_IOO (inU_7 _ (List.mem_of_getElem? (i := 22) rfl)) (inU_7 _ (List.mem_of_getElem? (i := 23) rfl)) (text := "no such channel") (List.mem_of_getElem? (i := 14) rfl) dX7_channelAt_15 dX7_channelAt_18 dX7_channelAt_19 dX7_channelAt_22 dX7_channelAt_25 (Nat.le_of_ble_eq_true rfl) ⟨(Nat.le_of_ble_eq_true rfl), (Nat.le_of_ble_eq_true rfl), (Nat.le_of_ble_eq_true rfl), (Nat.le_of_ble_eq_true rfl)⟩ ⟨(Nat.le_of_ble_eq_true rfl), (Nat.le_of_ble_eq_true rfl)⟩ ⟨(Nat.le_of_ble_eq_true rfl), (Nat.le_of_ble_eq_true rfl)⟩ ⟨⟨rfl, inB_neg c_1⟩, rfl, rfl⟩
  · refine lv_iload_n hx hb dX7_channelAt_4 rfl (lv_at hl 1 rfl) ?_
    refine lv_aload_n hx hb dX7_channelAt_5 rfl (lv_at hl 0 rfl) ?_
    refine k_get (index := 10) (j := 0) (ad := ad) (k := 0) (i := 0) Z X ct_0 inlX7 rfl (by decide) (inU_1 _ (List.mem_of_getElem? (i := 18) rfl)) (fun _ h => h) (v := .ref (ad 1 0)) rfl dX7_channelAt_6 ?_
    refine k_Ri X (k_runV (As := []) (rest := [.int x9]) Z X (c_Jx4a65c_size_8abf5 l E G ad (cto G S T o ad) 0 _ _ (nI 6) (ct_1 (by decide))) (k_cwV 0 Z.1.2.2.2.2 (inU_6 _ (List.mem_of_getElem? (i := 21) rfl)) (inU_6 _ (List.mem_of_getElem? (i := 22) rfl)) (inU_6 _ (List.mem_of_getElem? (i := 23) rfl)) (inU_1 _ (List.mem_of_getElem? (i := 17) rfl)) (inU_7 _ (List.mem_of_getElem? (i := 0) rfl)) rfl rfl (by decide +kernel) ⟨Nat.le_of_ble_eq_true rfl, Nat.le_of_ble_eq_true rfl⟩) (k_recv Z X (ct_1 (by decide)) rfl) rfl hl.1 rfl (Nat.le_of_ble_eq_true rfl) dX7_channelAt_9 ⟨(by first | exact Nat.le_of_ble_eq_true rfl | (show _ ≤ (_ : Nat); simp only [headSpec]; omega)), (by first | exact Nat.le_of_ble_eq_true rfl | (show _ ≤ (_ : Nat); simp only [headSpec]; omega))⟩) (fun r_9 ad1 ct1 H locs hp X => ?_)
    obtain ⟨rfl, ha_, hb_⟩ := hp
    rw [← ha_, hb_] at X
    refine lv_icmp_lt (tgt := 26) hx hb dX7_channelAt_12 (by decide) (fun c_12 => ?_) (fun c_12 => ?_)
    · obtain ⟨j, hj31, rfl⟩ := nI_of c_1
      have hj : j < 6 := (nI_ltI hj31 (by omega)).mp c_12
      refine lv_aload_n hx hb dX7_channelAt_26 rfl (lv_at hl 0 rfl) ?_
      refine k_get (index := 10) (j := 0) (ad := ad) (k := 0) (i := 0) Z X ct_0 inlX7 rfl (by decide) (inU_1 _ (List.mem_of_getElem? (i := 18) rfl)) (fun _ h => h) (v := .ref (ad 1 0)) rfl dX7_channelAt_27 ?_
      refine lv_iload_n hx hb dX7_channelAt_30 rfl (lv_at hl 1 rfl) ?_
      refine k_Rq X (k_runV (As := [.int (nI j)]) (rest := []) Z X (c_getS l E G S T o ad 0 j (by decide) hL (by show _ < (_ : Nat); simp only [lcnt]; omega)) (k_cwV 1 Z.1.2.2.2.2 (inU_8 _ (List.mem_of_getElem? (i := 1) rfl)) (inU_8 _ (List.mem_of_getElem? (i := 2) rfl)) (inU_8 _ (List.mem_of_getElem? (i := 3) rfl)) (inU_1 _ (List.mem_of_getElem? (i := 17) rfl)) (inU_8 _ (List.mem_of_getElem? (i := 4) rfl)) rfl rfl (by decide +kernel) ⟨Nat.le_of_ble_eq_true rfl, Nat.le_of_ble_eq_true rfl⟩) (k_recv Z X (ct_1 (by decide)) rfl) rfl hl.1 rfl (Nat.le_of_ble_eq_true rfl) dX7_channelAt_31 ⟨(by first | exact Nat.le_of_ble_eq_true rfl | (show _ ≤ (_ : Nat); simp only [headSpec]; omega)), (by first | exact Nat.le_of_ble_eq_true rfl | (show _ ≤ (_ : Nat); simp only [headSpec]; omega))⟩) (fun r_31 ad1 ct1 H locs hp X => ?_)
      obtain ⟨rfl, ha_, hb_⟩ := hp
      rw [← ha_, hb_] at X
      refine k_cast (r := (RX0, TX0, 3)) Z X (ct_3 (by first | assumption | omega | decide)) rfl (inU_10 _ (List.mem_of_getElem? (i := 18) rfl)) dX7_channelAt_34 ?_
      exact vx_ret (k_aret (some (ad 3 j)) Z X hr hlocks (Or.inl ⟨_, rfl⟩) (Nat.le_of_ble_eq_true rfl) (Nat.le_of_ble_eq_true rfl) dX7_channelAt_37 ⟨⟨j, hj, rfl, rfl⟩, rfl, rfl⟩)
    · exact k_throwW hE Z X hout hlocks hl.1 kThr_IOO (inU_7 _ (List.mem_of_getElem? (i := 22) rfl)) (inU_7 _ (List.mem_of_getElem? (i := 23) rfl)) (text := "no such channel") (List.mem_of_getElem? (i := 14) rfl) dX7_channelAt_15 dX7_channelAt_18 dX7_channelAt_19 dX7_channelAt_22 dX7_channelAt_25 (Nat.le_of_ble_eq_true rfl) ⟨(Nat.le_of_ble_eq_true rfl), (Nat.le_of_ble_eq_true rfl), (Nat.le_of_ble_eq_true rfl), (Nat.le_of_ble_eq_true rfl)⟩ ⟨(Nat.le_of_ble_eq_true rfl), (Nat.le_of_ble_eq_true rfl)⟩ ⟨(Nat.le_of_ble_eq_true rfl), (Nat.le_of_ble_eq_true rfl)⟩ ⟨⟨rfl, inB_big (by omega) c_12⟩, rfl, rfl⟩
theorem dX7_messageAt_0 : decode cX7_messageAt 0 = .ok (.iload_n 1, 1) := by decide +kernel
theorem dX7_messageAt_1 : decode cX7_messageAt 1 = .ok (.ifCond .lt 14, 3) := by decide +kernel
theorem dX7_messageAt_4 : decode cX7_messageAt 4 = .ok (.iload_n 1, 1) := by decide +kernel
theorem dX7_messageAt_5 : decode cX7_messageAt 5 = .ok (.aload_n 0, 1) := by decide +kernel
theorem dX7_messageAt_6 : decode cX7_messageAt 6 = .ok (.getfield 28, 3) := by decide +kernel
theorem dX7_messageAt_9 : decode cX7_messageAt 9 = .ok (.invokevirtual 59, 3) := by decide +kernel
theorem dX7_messageAt_12 : decode cX7_messageAt 12 = .ok (.if_icmp .lt 14, 3) := by decide +kernel
theorem dX7_messageAt_15 : decode cX7_messageAt 15 = .ok (.new 251, 3) := by decide +kernel
theorem dX7_messageAt_18 : decode cX7_messageAt 18 = .ok (.dup, 1) := by decide +kernel
theorem dX7_messageAt_19 : decode cX7_messageAt 19 = .ok (.ldc_w 283, 3) := by decide +kernel
theorem dX7_messageAt_22 : decode cX7_messageAt 22 = .ok (.invokespecial 255, 3) := by decide +kernel
theorem dX7_messageAt_25 : decode cX7_messageAt 25 = .ok (.athrow, 1) := by decide +kernel
theorem dX7_messageAt_26 : decode cX7_messageAt 26 = .ok (.aload_n 0, 1) := by decide +kernel
theorem dX7_messageAt_27 : decode cX7_messageAt 27 = .ok (.getfield 28, 3) := by decide +kernel
theorem dX7_messageAt_30 : decode cX7_messageAt 30 = .ok (.iload_n 1, 1) := by decide +kernel
theorem dX7_messageAt_31 : decode cX7_messageAt 31 = .ok (.invokevirtual 210, 3) := by decide +kernel
theorem dX7_messageAt_34 : decode cX7_messageAt 34 = .ok (.checkcast 112, 3) := by decide +kernel
theorem dX7_messageAt_37 : decode cX7_messageAt 37 = .ok (.areturn, 1) := by decide +kernel
set_option maxHeartbeats 4000000 in
set_option maxRecDepth 100000 in
theorem c_X7_messageAt (l : Launch) (E : State) (G : kG) (S T : kSt) (o : Int64) (ad : kAd) (x9 : Int32) (hE : kE l E G) (hS : okN S) (hL : okL S) : vx_Met l yX7_messageAt (.code yX7_messageAt cX7_messageAt 2 (some (.object "MarkChat$Message")) :: wsL_law) ({ frames := 6, cells := 1, slots := 6, locals := 150 } : Room) (va_Pc [.ref (ad 0 0), .int x9] (kPre E G ad (cto G S T o ad))) (kQq E G (fun r ad1 ct1 => (∃ j : Nat, j < (S.2 0 1) ∧ x9 = nI j ∧ r = some (ad 5 j)) ∧ ad = ad1 ∧ ct1 = cto G S T o ad)) (kXC E G (fun x ad1 ct1 => (x = "java/lang/IndexOutOfBoundsException" ∧ inB x9 (S.2 0 1) = false) ∧ ad = ad1 ∧ ct1 = cto G S T o ad)) 1 6 (kB E.heap.size) := by
  refine vx_ofW (cc := cX7_messageAt) (maxL := 2) (ret := (some (.object "MarkChat$Message"))) (by decide) rfl ?_
  intro p e s m args below meth c s₁ B hml hout hv
  obtain ⟨rfl, hM, hK, hW0⟩ := hv
  have hlocks := B.notSynchronized
  have hr := B.returns
  have Z : kZ p m c cX7_messageAt 2 s _ wsL_law RX7 E G := ⟨⟨B.exec, B.bytes, hml, findClass_of_methodNamed B.named, fun w h => atoms_spec (ws := .code yX7_messageAt cX7_messageAt 2 (some (.object "MarkChat$Message")) :: wsL_law) B.pre w (List.mem_cons_of_mem _ h)⟩, hM, hK⟩
  have hx := Z.1.1
  have hb := Z.1.2.1
  have X := kX.of hW0
  have hl := lv_entry ([.ref (ad 0 0), .int x9]) (n := 2) (Nat.le_of_ble_eq_true rfl)
  rw [lg_entry_eq]
  generalize (lg_sl ([.ref (ad 0 0), .int x9]) ++ List.replicate (2 - (lg_sl ([.ref (ad 0 0), .int x9])).length) Slot.unset).toArray = ls at hl ⊢
  have hl : lv_has ls 2 [(0, .ref (ad 0 0)), (1, .int x9)] := hl
  obtain ⟨hT1, hT2, hT3, hT4, hT5, hT6, hT7⟩ := id hS
  refine lv_iload_n hx hb dX7_messageAt_0 rfl (lv_at hl 1 rfl) ?_
  refine lv_if_lt (tgt := 15) hx hb dX7_messageAt_1 (by decide) (fun c_1 => ?_) (fun c_1 => ?_)
  · exact k_throwW hE Z X hout hlocks hl.1 kThr_IOO (inU_7 _ (List.mem_of_getElem? (i := 22) rfl)) (inU_7 _ (List.mem_of_getElem? (i := 23) rfl)) (text := "no such message") (List.mem_of_getElem? (i := 15) rfl) dX7_messageAt_15 dX7_messageAt_18 dX7_messageAt_19 dX7_messageAt_22 dX7_messageAt_25 (Nat.le_of_ble_eq_true rfl) ⟨(Nat.le_of_ble_eq_true rfl), (Nat.le_of_ble_eq_true rfl), (Nat.le_of_ble_eq_true rfl), (Nat.le_of_ble_eq_true rfl)⟩ ⟨(Nat.le_of_ble_eq_true rfl), (Nat.le_of_ble_eq_true rfl)⟩ ⟨(Nat.le_of_ble_eq_true rfl), (Nat.le_of_ble_eq_true rfl)⟩ ⟨⟨rfl, inB_neg c_1⟩, rfl, rfl⟩
  · refine lv_iload_n hx hb dX7_messageAt_4 rfl (lv_at hl 1 rfl) ?_
    refine lv_aload_n hx hb dX7_messageAt_5 rfl (lv_at hl 0 rfl) ?_
    refine k_get (index := 28) (j := 2) (ad := ad) (k := 0) (i := 0) Z X ct_0 inlX7 rfl (by decide) (inU_1 _ (List.mem_of_getElem? (i := 23) rfl)) (fun _ h => h) (v := .ref (ad 1 2)) rfl dX7_messageAt_6 ?_
    refine k_Ri X (k_runV (As := []) (rest := [.int x9]) Z X (c_Jx4a65c_size_8abf5 l E G ad (cto G S T o ad) 2 _ _ (nI (S.2 0 1)) (ct_1 (by decide))) (k_cwV 0 Z.1.2.2.2.2 (inU_6 _ (List.mem_of_getElem? (i := 21) rfl)) (inU_6 _ (List.mem_of_getElem? (i := 22) rfl)) (inU_6 _ (List.mem_of_getElem? (i := 23) rfl)) (inU_1 _ (List.mem_of_getElem? (i := 17) rfl)) (inU_7 _ (List.mem_of_getElem? (i := 0) rfl)) rfl rfl (by decide +kernel) ⟨Nat.le_of_ble_eq_true rfl, Nat.le_of_ble_eq_true rfl⟩) (k_recv Z X (ct_1 (by decide)) rfl) rfl hl.1 rfl (Nat.le_of_ble_eq_true rfl) dX7_messageAt_9 ⟨(by first | exact Nat.le_of_ble_eq_true rfl | (show _ ≤ (_ : Nat); simp only [headSpec]; omega)), (by first | exact Nat.le_of_ble_eq_true rfl | (show _ ≤ (_ : Nat); simp only [headSpec]; omega))⟩) (fun r_9 ad1 ct1 H locs hp X => ?_)
    obtain ⟨rfl, ha_, hb_⟩ := hp
    rw [← ha_, hb_] at X
    refine lv_icmp_lt (tgt := 26) hx hb dX7_messageAt_12 (by decide) (fun c_12 => ?_) (fun c_12 => ?_)
    · obtain ⟨j, hj31, rfl⟩ := nI_of c_1
      have hj : j < (S.2 0 1) := (nI_ltI hj31 (by omega)).mp c_12
      refine lv_aload_n hx hb dX7_messageAt_26 rfl (lv_at hl 0 rfl) ?_
      refine k_get (index := 28) (j := 2) (ad := ad) (k := 0) (i := 0) Z X ct_0 inlX7 rfl (by decide) (inU_1 _ (List.mem_of_getElem? (i := 23) rfl)) (fun _ h => h) (v := .ref (ad 1 2)) rfl dX7_messageAt_27 ?_
      refine lv_iload_n hx hb dX7_messageAt_30 rfl (lv_at hl 1 rfl) ?_
      refine k_Rq X (k_runV (As := [.int (nI j)]) (rest := []) Z X (c_getS l E G S T o ad 2 j (by decide) hL (by show _ < (_ : Nat); simp only [lcnt]; omega)) (k_cwV 1 Z.1.2.2.2.2 (inU_8 _ (List.mem_of_getElem? (i := 1) rfl)) (inU_8 _ (List.mem_of_getElem? (i := 2) rfl)) (inU_8 _ (List.mem_of_getElem? (i := 3) rfl)) (inU_1 _ (List.mem_of_getElem? (i := 17) rfl)) (inU_8 _ (List.mem_of_getElem? (i := 4) rfl)) rfl rfl (by decide +kernel) ⟨Nat.le_of_ble_eq_true rfl, Nat.le_of_ble_eq_true rfl⟩) (k_recv Z X (ct_1 (by decide)) rfl) rfl hl.1 rfl (Nat.le_of_ble_eq_true rfl) dX7_messageAt_31 ⟨(by first | exact Nat.le_of_ble_eq_true rfl | (show _ ≤ (_ : Nat); simp only [headSpec]; omega)), (by first | exact Nat.le_of_ble_eq_true rfl | (show _ ≤ (_ : Nat); simp only [headSpec]; omega))⟩) (fun r_31 ad1 ct1 H locs hp X => ?_)
      obtain ⟨rfl, ha_, hb_⟩ := hp
      rw [← ha_, hb_] at X
      refine k_cast (r := (RX3, TX3, 8)) Z X (ct_5 (by first | assumption | omega | decide)) rfl (inU_11 _ (List.mem_of_getElem? (i := 8) rfl)) dX7_messageAt_34 ?_
      exact vx_ret (k_aret (some (ad 5 j)) Z X hr hlocks (Or.inl ⟨_, rfl⟩) (Nat.le_of_ble_eq_true rfl) (Nat.le_of_ble_eq_true rfl) dX7_messageAt_37 ⟨⟨j, hj, rfl, rfl⟩, rfl, rfl⟩)
    · exact k_throwW hE Z X hout hlocks hl.1 kThr_IOO (inU_7 _ (List.mem_of_getElem? (i := 22) rfl)) (inU_7 _ (List.mem_of_getElem? (i := 23) rfl)) (text := "no such message") (List.mem_of_getElem? (i := 15) rfl) dX7_messageAt_15 dX7_messageAt_18 dX7_messageAt_19 dX7_messageAt_22 dX7_messageAt_25 (Nat.le_of_ble_eq_true rfl) ⟨(Nat.le_of_ble_eq_true rfl), (Nat.le_of_ble_eq_true rfl), (Nat.le_of_ble_eq_true rfl), (Nat.le_of_ble_eq_true rfl)⟩ ⟨(Nat.le_of_ble_eq_true rfl), (Nat.le_of_ble_eq_true rfl)⟩ ⟨(Nat.le_of_ble_eq_true rfl), (Nat.le_of_ble_eq_true rfl)⟩ ⟨⟨rfl, inB_big (by omega) c_12⟩, rfl, rfl⟩
theorem dX7_spendAt_0 : decode cX7_spendAt 0 = .ok (.iload_n 1, 1) := by decide +kernel
theorem dX7_spendAt_1 : decode cX7_spendAt 1 = .ok (.ifCond .lt 14, 3) := by decide +kernel
theorem dX7_spendAt_4 : decode cX7_spendAt 4 = .ok (.iload_n 1, 1) := by decide +kernel
theorem dX7_spendAt_5 : decode cX7_spendAt 5 = .ok (.aload_n 0, 1) := by decide +kernel
theorem dX7_spendAt_6 : decode cX7_spendAt 6 = .ok (.getfield 31, 3) := by decide +kernel
theorem dX7_spendAt_9 : decode cX7_spendAt 9 = .ok (.invokevirtual 59, 3) := by decide +kernel
theorem dX7_spendAt_12 : decode cX7_spendAt 12 = .ok (.if_icmp .lt 14, 3) := by decide +kernel
theorem dX7_spendAt_15 : decode cX7_spendAt 15 = .ok (.new 251, 3) := by decide +kernel
theorem dX7_spendAt_18 : decode cX7_spendAt 18 = .ok (.dup, 1) := by decide +kernel
theorem dX7_spendAt_19 : decode cX7_spendAt 19 = .ok (.ldc_w 285, 3) := by decide +kernel
theorem dX7_spendAt_22 : decode cX7_spendAt 22 = .ok (.invokespecial 255, 3) := by decide +kernel
theorem dX7_spendAt_25 : decode cX7_spendAt 25 = .ok (.athrow, 1) := by decide +kernel
theorem dX7_spendAt_26 : decode cX7_spendAt 26 = .ok (.aload_n 0, 1) := by decide +kernel
theorem dX7_spendAt_27 : decode cX7_spendAt 27 = .ok (.getfield 31, 3) := by decide +kernel
theorem dX7_spendAt_30 : decode cX7_spendAt 30 = .ok (.iload_n 1, 1) := by decide +kernel
theorem dX7_spendAt_31 : decode cX7_spendAt 31 = .ok (.invokevirtual 210, 3) := by decide +kernel
theorem dX7_spendAt_34 : decode cX7_spendAt 34 = .ok (.checkcast 175, 3) := by decide +kernel
theorem dX7_spendAt_37 : decode cX7_spendAt 37 = .ok (.areturn, 1) := by decide +kernel
set_option maxHeartbeats 4000000 in
set_option maxRecDepth 100000 in
theorem c_X7_spendAt (l : Launch) (E : State) (G : kG) (S T : kSt) (o : Int64) (ad : kAd) (x9 : Int32) (hE : kE l E G) (hS : okN S) (hL : okL S) : vx_Met l yX7_spendAt (.code yX7_spendAt cX7_spendAt 2 (some (.object "MarkChat$Spend")) :: wsL_law) ({ frames := 6, cells := 1, slots := 6, locals := 150 } : Room) (va_Pc [.ref (ad 0 0), .int x9] (kPre E G ad (cto G S T o ad))) (kQq E G (fun r ad1 ct1 => (∃ j : Nat, j < (S.2 0 2) ∧ x9 = nI j ∧ r = some (ad 8 j)) ∧ ad = ad1 ∧ ct1 = cto G S T o ad)) (kXC E G (fun x ad1 ct1 => (x = "java/lang/IndexOutOfBoundsException" ∧ inB x9 (S.2 0 2) = false) ∧ ad = ad1 ∧ ct1 = cto G S T o ad)) 1 6 (kB E.heap.size) := by
  refine vx_ofW (cc := cX7_spendAt) (maxL := 2) (ret := (some (.object "MarkChat$Spend"))) (by decide) rfl ?_
  intro p e s m args below meth c s₁ B hml hout hv
  obtain ⟨rfl, hM, hK, hW0⟩ := hv
  have hlocks := B.notSynchronized
  have hr := B.returns
  have Z : kZ p m c cX7_spendAt 2 s _ wsL_law RX7 E G := ⟨⟨B.exec, B.bytes, hml, findClass_of_methodNamed B.named, fun w h => atoms_spec (ws := .code yX7_spendAt cX7_spendAt 2 (some (.object "MarkChat$Spend")) :: wsL_law) B.pre w (List.mem_cons_of_mem _ h)⟩, hM, hK⟩
  have hx := Z.1.1
  have hb := Z.1.2.1
  have X := kX.of hW0
  have hl := lv_entry ([.ref (ad 0 0), .int x9]) (n := 2) (Nat.le_of_ble_eq_true rfl)
  rw [lg_entry_eq]
  generalize (lg_sl ([.ref (ad 0 0), .int x9]) ++ List.replicate (2 - (lg_sl ([.ref (ad 0 0), .int x9])).length) Slot.unset).toArray = ls at hl ⊢
  have hl : lv_has ls 2 [(0, .ref (ad 0 0)), (1, .int x9)] := hl
  obtain ⟨hT1, hT2, hT3, hT4, hT5, hT6, hT7⟩ := id hS
  refine lv_iload_n hx hb dX7_spendAt_0 rfl (lv_at hl 1 rfl) ?_
  refine lv_if_lt (tgt := 15) hx hb dX7_spendAt_1 (by decide) (fun c_1 => ?_) (fun c_1 => ?_)
  · exact k_throwW hE Z X hout hlocks hl.1 kThr_IOO (inU_7 _ (List.mem_of_getElem? (i := 22) rfl)) (inU_7 _ (List.mem_of_getElem? (i := 23) rfl)) (text := "no such spend") (List.mem_of_getElem? (i := 16) rfl) dX7_spendAt_15 dX7_spendAt_18 dX7_spendAt_19 dX7_spendAt_22 dX7_spendAt_25 (Nat.le_of_ble_eq_true rfl) ⟨(Nat.le_of_ble_eq_true rfl), (Nat.le_of_ble_eq_true rfl), (Nat.le_of_ble_eq_true rfl), (Nat.le_of_ble_eq_true rfl)⟩ ⟨(Nat.le_of_ble_eq_true rfl), (Nat.le_of_ble_eq_true rfl)⟩ ⟨(Nat.le_of_ble_eq_true rfl), (Nat.le_of_ble_eq_true rfl)⟩ ⟨⟨rfl, inB_neg c_1⟩, rfl, rfl⟩
  · refine lv_iload_n hx hb dX7_spendAt_4 rfl (lv_at hl 1 rfl) ?_
    refine lv_aload_n hx hb dX7_spendAt_5 rfl (lv_at hl 0 rfl) ?_
    refine k_get (index := 31) (j := 3) (ad := ad) (k := 0) (i := 0) Z X ct_0 inlX7 rfl (by decide) (inU_2 _ (List.mem_of_getElem? (i := 0) rfl)) (fun _ h => h) (v := .ref (ad 1 3)) rfl dX7_spendAt_6 ?_
    refine k_Ri X (k_runV (As := []) (rest := [.int x9]) Z X (c_Jx4a65c_size_8abf5 l E G ad (cto G S T o ad) 3 _ _ (nI (S.2 0 2)) (ct_1 (by decide))) (k_cwV 0 Z.1.2.2.2.2 (inU_6 _ (List.mem_of_getElem? (i := 21) rfl)) (inU_6 _ (List.mem_of_getElem? (i := 22) rfl)) (inU_6 _ (List.mem_of_getElem? (i := 23) rfl)) (inU_1 _ (List.mem_of_getElem? (i := 17) rfl)) (inU_7 _ (List.mem_of_getElem? (i := 0) rfl)) rfl rfl (by decide +kernel) ⟨Nat.le_of_ble_eq_true rfl, Nat.le_of_ble_eq_true rfl⟩) (k_recv Z X (ct_1 (by decide)) rfl) rfl hl.1 rfl (Nat.le_of_ble_eq_true rfl) dX7_spendAt_9 ⟨(by first | exact Nat.le_of_ble_eq_true rfl | (show _ ≤ (_ : Nat); simp only [headSpec]; omega)), (by first | exact Nat.le_of_ble_eq_true rfl | (show _ ≤ (_ : Nat); simp only [headSpec]; omega))⟩) (fun r_9 ad1 ct1 H locs hp X => ?_)
    obtain ⟨rfl, ha_, hb_⟩ := hp
    rw [← ha_, hb_] at X
    refine lv_icmp_lt (tgt := 26) hx hb dX7_spendAt_12 (by decide) (fun c_12 => ?_) (fun c_12 => ?_)
    · obtain ⟨j, hj31, rfl⟩ := nI_of c_1
      have hj : j < (S.2 0 2) := (nI_ltI hj31 (by omega)).mp c_12
      refine lv_aload_n hx hb dX7_spendAt_26 rfl (lv_at hl 0 rfl) ?_
      refine k_get (index := 31) (j := 3) (ad := ad) (k := 0) (i := 0) Z X ct_0 inlX7 rfl (by decide) (inU_2 _ (List.mem_of_getElem? (i := 0) rfl)) (fun _ h => h) (v := .ref (ad 1 3)) rfl dX7_spendAt_27 ?_
      refine lv_iload_n hx hb dX7_spendAt_30 rfl (lv_at hl 1 rfl) ?_
      refine k_Rq X (k_runV (As := [.int (nI j)]) (rest := []) Z X (c_getS l E G S T o ad 3 j (by decide) hL (by show _ < (_ : Nat); simp only [lcnt]; omega)) (k_cwV 1 Z.1.2.2.2.2 (inU_8 _ (List.mem_of_getElem? (i := 1) rfl)) (inU_8 _ (List.mem_of_getElem? (i := 2) rfl)) (inU_8 _ (List.mem_of_getElem? (i := 3) rfl)) (inU_1 _ (List.mem_of_getElem? (i := 17) rfl)) (inU_8 _ (List.mem_of_getElem? (i := 4) rfl)) rfl rfl (by decide +kernel) ⟨Nat.le_of_ble_eq_true rfl, Nat.le_of_ble_eq_true rfl⟩) (k_recv Z X (ct_1 (by decide)) rfl) rfl hl.1 rfl (Nat.le_of_ble_eq_true rfl) dX7_spendAt_31 ⟨(by first | exact Nat.le_of_ble_eq_true rfl | (show _ ≤ (_ : Nat); simp only [headSpec]; omega)), (by first | exact Nat.le_of_ble_eq_true rfl | (show _ ≤ (_ : Nat); simp only [headSpec]; omega))⟩) (fun r_31 ad1 ct1 H locs hp X => ?_)
      obtain ⟨rfl, ha_, hb_⟩ := hp
      rw [← ha_, hb_] at X
      refine k_cast (r := (RX4, TX4, 5)) Z X (ct_8 (by first | assumption | omega | decide)) rfl (inU_8 _ (List.mem_of_getElem? (i := 21) rfl)) dX7_spendAt_34 ?_
      exact vx_ret (k_aret (some (ad 8 j)) Z X hr hlocks (Or.inl ⟨_, rfl⟩) (Nat.le_of_ble_eq_true rfl) (Nat.le_of_ble_eq_true rfl) dX7_spendAt_37 ⟨⟨j, hj, rfl, rfl⟩, rfl, rfl⟩)
    · exact k_throwW hE Z X hout hlocks hl.1 kThr_IOO (inU_7 _ (List.mem_of_getElem? (i := 22) rfl)) (inU_7 _ (List.mem_of_getElem? (i := 23) rfl)) (text := "no such spend") (List.mem_of_getElem? (i := 16) rfl) dX7_spendAt_15 dX7_spendAt_18 dX7_spendAt_19 dX7_spendAt_22 dX7_spendAt_25 (Nat.le_of_ble_eq_true rfl) ⟨(Nat.le_of_ble_eq_true rfl), (Nat.le_of_ble_eq_true rfl), (Nat.le_of_ble_eq_true rfl), (Nat.le_of_ble_eq_true rfl)⟩ ⟨(Nat.le_of_ble_eq_true rfl), (Nat.le_of_ble_eq_true rfl)⟩ ⟨(Nat.le_of_ble_eq_true rfl), (Nat.le_of_ble_eq_true rfl)⟩ ⟨⟨rfl, inB_big (by omega) c_12⟩, rfl, rfl⟩
theorem dX7_taskAt_0 : decode cX7_taskAt 0 = .ok (.iload_n 1, 1) := by decide +kernel
theorem dX7_taskAt_1 : decode cX7_taskAt 1 = .ok (.ifCond .lt 14, 3) := by decide +kernel
theorem dX7_taskAt_4 : decode cX7_taskAt 4 = .ok (.iload_n 1, 1) := by decide +kernel
theorem dX7_taskAt_5 : decode cX7_taskAt 5 = .ok (.aload_n 0, 1) := by decide +kernel
theorem dX7_taskAt_6 : decode cX7_taskAt 6 = .ok (.getfield 34, 3) := by decide +kernel
theorem dX7_taskAt_9 : decode cX7_taskAt 9 = .ok (.invokevirtual 59, 3) := by decide +kernel
theorem dX7_taskAt_12 : decode cX7_taskAt 12 = .ok (.if_icmp .lt 14, 3) := by decide +kernel
theorem dX7_taskAt_15 : decode cX7_taskAt 15 = .ok (.new 251, 3) := by decide +kernel
theorem dX7_taskAt_18 : decode cX7_taskAt 18 = .ok (.dup, 1) := by decide +kernel
theorem dX7_taskAt_19 : decode cX7_taskAt 19 = .ok (.ldc_w 287, 3) := by decide +kernel
theorem dX7_taskAt_22 : decode cX7_taskAt 22 = .ok (.invokespecial 255, 3) := by decide +kernel
theorem dX7_taskAt_25 : decode cX7_taskAt 25 = .ok (.athrow, 1) := by decide +kernel
theorem dX7_taskAt_26 : decode cX7_taskAt 26 = .ok (.aload_n 0, 1) := by decide +kernel
theorem dX7_taskAt_27 : decode cX7_taskAt 27 = .ok (.getfield 34, 3) := by decide +kernel
theorem dX7_taskAt_30 : decode cX7_taskAt 30 = .ok (.iload_n 1, 1) := by decide +kernel
theorem dX7_taskAt_31 : decode cX7_taskAt 31 = .ok (.invokevirtual 210, 3) := by decide +kernel
theorem dX7_taskAt_34 : decode cX7_taskAt 34 = .ok (.checkcast 181, 3) := by decide +kernel
theorem dX7_taskAt_37 : decode cX7_taskAt 37 = .ok (.areturn, 1) := by decide +kernel
set_option maxHeartbeats 4000000 in
set_option maxRecDepth 100000 in
theorem c_X7_taskAt (l : Launch) (E : State) (G : kG) (S T : kSt) (o : Int64) (ad : kAd) (x9 : Int32) (hE : kE l E G) (hS : okN S) (hL : okL S) : vx_Met l yX7_taskAt (.code yX7_taskAt cX7_taskAt 2 (some (.object "MarkChat$Task")) :: wsL_law) ({ frames := 6, cells := 1, slots := 6, locals := 150 } : Room) (va_Pc [.ref (ad 0 0), .int x9] (kPre E G ad (cto G S T o ad))) (kQq E G (fun r ad1 ct1 => (∃ j : Nat, j < (S.2 0 3) ∧ x9 = nI j ∧ r = some (ad 9 j)) ∧ ad = ad1 ∧ ct1 = cto G S T o ad)) (kXC E G (fun x ad1 ct1 => (x = "java/lang/IndexOutOfBoundsException" ∧ inB x9 (S.2 0 3) = false) ∧ ad = ad1 ∧ ct1 = cto G S T o ad)) 1 6 (kB E.heap.size) := by
  refine vx_ofW (cc := cX7_taskAt) (maxL := 2) (ret := (some (.object "MarkChat$Task"))) (by decide) rfl ?_
  intro p e s m args below meth c s₁ B hml hout hv
  obtain ⟨rfl, hM, hK, hW0⟩ := hv
  have hlocks := B.notSynchronized
  have hr := B.returns
  have Z : kZ p m c cX7_taskAt 2 s _ wsL_law RX7 E G := ⟨⟨B.exec, B.bytes, hml, findClass_of_methodNamed B.named, fun w h => atoms_spec (ws := .code yX7_taskAt cX7_taskAt 2 (some (.object "MarkChat$Task")) :: wsL_law) B.pre w (List.mem_cons_of_mem _ h)⟩, hM, hK⟩
  have hx := Z.1.1
  have hb := Z.1.2.1
  have X := kX.of hW0
  have hl := lv_entry ([.ref (ad 0 0), .int x9]) (n := 2) (Nat.le_of_ble_eq_true rfl)
  rw [lg_entry_eq]
  generalize (lg_sl ([.ref (ad 0 0), .int x9]) ++ List.replicate (2 - (lg_sl ([.ref (ad 0 0), .int x9])).length) Slot.unset).toArray = ls at hl ⊢
  have hl : lv_has ls 2 [(0, .ref (ad 0 0)), (1, .int x9)] := hl
  obtain ⟨hT1, hT2, hT3, hT4, hT5, hT6, hT7⟩ := id hS
  refine lv_iload_n hx hb dX7_taskAt_0 rfl (lv_at hl 1 rfl) ?_
  refine lv_if_lt (tgt := 15) hx hb dX7_taskAt_1 (by decide) (fun c_1 => ?_) (fun c_1 => ?_)
  · exact k_throwW hE Z X hout hlocks hl.1 kThr_IOO (inU_7 _ (List.mem_of_getElem? (i := 22) rfl)) (inU_7 _ (List.mem_of_getElem? (i := 23) rfl)) (text := "no such task") (List.mem_of_getElem? (i := 17) rfl) dX7_taskAt_15 dX7_taskAt_18 dX7_taskAt_19 dX7_taskAt_22 dX7_taskAt_25 (Nat.le_of_ble_eq_true rfl) ⟨(Nat.le_of_ble_eq_true rfl), (Nat.le_of_ble_eq_true rfl), (Nat.le_of_ble_eq_true rfl), (Nat.le_of_ble_eq_true rfl)⟩ ⟨(Nat.le_of_ble_eq_true rfl), (Nat.le_of_ble_eq_true rfl)⟩ ⟨(Nat.le_of_ble_eq_true rfl), (Nat.le_of_ble_eq_true rfl)⟩ ⟨⟨rfl, inB_neg c_1⟩, rfl, rfl⟩
  · refine lv_iload_n hx hb dX7_taskAt_4 rfl (lv_at hl 1 rfl) ?_
    refine lv_aload_n hx hb dX7_taskAt_5 rfl (lv_at hl 0 rfl) ?_
    refine k_get (index := 34) (j := 4) (ad := ad) (k := 0) (i := 0) Z X ct_0 inlX7 rfl (by decide) (inU_2 _ (List.mem_of_getElem? (i := 1) rfl)) (fun _ h => h) (v := .ref (ad 1 4)) rfl dX7_taskAt_6 ?_
    refine k_Ri X (k_runV (As := []) (rest := [.int x9]) Z X (c_Jx4a65c_size_8abf5 l E G ad (cto G S T o ad) 4 _ _ (nI (S.2 0 3)) (ct_1 (by decide))) (k_cwV 0 Z.1.2.2.2.2 (inU_6 _ (List.mem_of_getElem? (i := 21) rfl)) (inU_6 _ (List.mem_of_getElem? (i := 22) rfl)) (inU_6 _ (List.mem_of_getElem? (i := 23) rfl)) (inU_1 _ (List.mem_of_getElem? (i := 17) rfl)) (inU_7 _ (List.mem_of_getElem? (i := 0) rfl)) rfl rfl (by decide +kernel) ⟨Nat.le_of_ble_eq_true rfl, Nat.le_of_ble_eq_true rfl⟩) (k_recv Z X (ct_1 (by decide)) rfl) rfl hl.1 rfl (Nat.le_of_ble_eq_true rfl) dX7_taskAt_9 ⟨(by first | exact Nat.le_of_ble_eq_true rfl | (show _ ≤ (_ : Nat); simp only [headSpec]; omega)), (by first | exact Nat.le_of_ble_eq_true rfl | (show _ ≤ (_ : Nat); simp only [headSpec]; omega))⟩) (fun r_9 ad1 ct1 H locs hp X => ?_)
    obtain ⟨rfl, ha_, hb_⟩ := hp
    rw [← ha_, hb_] at X
    refine lv_icmp_lt (tgt := 26) hx hb dX7_taskAt_12 (by decide) (fun c_12 => ?_) (fun c_12 => ?_)
    · obtain ⟨j, hj31, rfl⟩ := nI_of c_1
      have hj : j < (S.2 0 3) := (nI_ltI hj31 (by omega)).mp c_12
      refine lv_aload_n hx hb dX7_taskAt_26 rfl (lv_at hl 0 rfl) ?_
      refine k_get (index := 34) (j := 4) (ad := ad) (k := 0) (i := 0) Z X ct_0 inlX7 rfl (by decide) (inU_2 _ (List.mem_of_getElem? (i := 1) rfl)) (fun _ h => h) (v := .ref (ad 1 4)) rfl dX7_taskAt_27 ?_
      refine lv_iload_n hx hb dX7_taskAt_30 rfl (lv_at hl 1 rfl) ?_
      refine k_Rq X (k_runV (As := [.int (nI j)]) (rest := []) Z X (c_getS l E G S T o ad 4 j (by decide) hL (by show _ < (_ : Nat); simp only [lcnt]; omega)) (k_cwV 1 Z.1.2.2.2.2 (inU_8 _ (List.mem_of_getElem? (i := 1) rfl)) (inU_8 _ (List.mem_of_getElem? (i := 2) rfl)) (inU_8 _ (List.mem_of_getElem? (i := 3) rfl)) (inU_1 _ (List.mem_of_getElem? (i := 17) rfl)) (inU_8 _ (List.mem_of_getElem? (i := 4) rfl)) rfl rfl (by decide +kernel) ⟨Nat.le_of_ble_eq_true rfl, Nat.le_of_ble_eq_true rfl⟩) (k_recv Z X (ct_1 (by decide)) rfl) rfl hl.1 rfl (Nat.le_of_ble_eq_true rfl) dX7_taskAt_31 ⟨(by first | exact Nat.le_of_ble_eq_true rfl | (show _ ≤ (_ : Nat); simp only [headSpec]; omega)), (by first | exact Nat.le_of_ble_eq_true rfl | (show _ ≤ (_ : Nat); simp only [headSpec]; omega))⟩) (fun r_31 ad1 ct1 H locs hp X => ?_)
      obtain ⟨rfl, ha_, hb_⟩ := hp
      rw [← ha_, hb_] at X
      refine k_cast (r := (RX5, TX5, 6)) Z X (ct_9 (by first | assumption | omega | decide)) rfl (inU_13 _ (List.mem_of_getElem? (i := 4) rfl)) dX7_taskAt_34 ?_
      exact vx_ret (k_aret (some (ad 9 j)) Z X hr hlocks (Or.inl ⟨_, rfl⟩) (Nat.le_of_ble_eq_true rfl) (Nat.le_of_ble_eq_true rfl) dX7_taskAt_37 ⟨⟨j, hj, rfl, rfl⟩, rfl, rfl⟩)
    · exact k_throwW hE Z X hout hlocks hl.1 kThr_IOO (inU_7 _ (List.mem_of_getElem? (i := 22) rfl)) (inU_7 _ (List.mem_of_getElem? (i := 23) rfl)) (text := "no such task") (List.mem_of_getElem? (i := 17) rfl) dX7_taskAt_15 dX7_taskAt_18 dX7_taskAt_19 dX7_taskAt_22 dX7_taskAt_25 (Nat.le_of_ble_eq_true rfl) ⟨(Nat.le_of_ble_eq_true rfl), (Nat.le_of_ble_eq_true rfl), (Nat.le_of_ble_eq_true rfl), (Nat.le_of_ble_eq_true rfl)⟩ ⟨(Nat.le_of_ble_eq_true rfl), (Nat.le_of_ble_eq_true rfl)⟩ ⟨(Nat.le_of_ble_eq_true rfl), (Nat.le_of_ble_eq_true rfl)⟩ ⟨⟨rfl, inB_big (by omega) c_12⟩, rfl, rfl⟩
theorem dX7_checkRange_0 : decode cX7_checkRange 0 = .ok (.iload_n 0, 1) := by decide +kernel
theorem dX7_checkRange_1 : decode cX7_checkRange 1 = .ok (.iload_n 1, 1) := by decide +kernel
theorem dX7_checkRange_2 : decode cX7_checkRange 2 = .ok (.if_icmp .lt 8, 3) := by decide +kernel
theorem dX7_checkRange_5 : decode cX7_checkRange 5 = .ok (.iload_n 0, 1) := by decide +kernel
theorem dX7_checkRange_6 : decode cX7_checkRange 6 = .ok (.iload_n 2, 1) := by decide +kernel
theorem dX7_checkRange_7 : decode cX7_checkRange 7 = .ok (.if_icmp .le 14, 3) := by decide +kernel
theorem dX7_checkRange_10 : decode cX7_checkRange 10 = .ok (.new 227, 3) := by decide +kernel
theorem dX7_checkRange_13 : decode cX7_checkRange 13 = .ok (.dup, 1) := by decide +kernel
theorem dX7_checkRange_14 : decode cX7_checkRange 14 = .ok (.ldc_w 289, 3) := by decide +kernel
theorem dX7_checkRange_17 : decode cX7_checkRange 17 = .ok (.invokespecial 231, 3) := by decide +kernel
theorem dX7_checkRange_20 : decode cX7_checkRange 20 = .ok (.athrow, 1) := by decide +kernel
theorem dX7_checkRange_21 : decode cX7_checkRange 21 = .ok (.return_, 1) := by decide +kernel
set_option maxHeartbeats 4000000 in
set_option maxRecDepth 100000 in
theorem c_X7_checkRange (l : Launch) (E : State) (G : kG) (S T : kSt) (o : Int64) (ad : kAd) (v a b : Int32) (hE : kE l E G) : vx_Met l yX7_checkRange (.code yX7_checkRange cX7_checkRange 3 none :: wsL_law) ({ frames := 6, cells := 1, slots := 6, locals := 90 } : Room) (va_Pc [.int v, .int a, .int b] (kPre E G ad (cto G S T o ad))) (kQv E G (fun ad1 ct1 => inR v a b = true ∧ ad = ad1 ∧ ct1 = cto G S T o ad)) (kXC E G (fun x ad1 ct1 => (x = "java/lang/IllegalArgumentException" ∧ inR v a b = false) ∧ ad = ad1 ∧ ct1 = cto G S T o ad)) 1 6 (kB E.heap.size) := by
  refine vx_ofW (cc := cX7_checkRange) (maxL := 3) (ret := none) (by decide) rfl ?_
  intro p e s m args below meth c s₁ B hml hout hv
  obtain ⟨rfl, hM, hK, hW0⟩ := hv
  have hlocks := B.notSynchronized
  have hr := B.returns
  have Z : kZ p m c cX7_checkRange 3 s _ wsL_law RX7 E G := ⟨⟨B.exec, B.bytes, hml, findClass_of_methodNamed B.named, fun w h => atoms_spec (ws := .code yX7_checkRange cX7_checkRange 3 none :: wsL_law) B.pre w (List.mem_cons_of_mem _ h)⟩, hM, hK⟩
  have hx := Z.1.1
  have hb := Z.1.2.1
  have X := kX.of hW0
  have hl := lv_entry ([.int v, .int a, .int b]) (n := 3) (Nat.le_of_ble_eq_true rfl)
  rw [lg_entry_eq]
  generalize (lg_sl ([.int v, .int a, .int b]) ++ List.replicate (3 - (lg_sl ([.int v, .int a, .int b])).length) Slot.unset).toArray = ls at hl ⊢
  have hl : lv_has ls 3 [(0, .int v), (1, .int a), (2, .int b)] := hl
  refine lv_iload_n hx hb dX7_checkRange_0 rfl (lv_at hl 0 rfl) ?_
  refine lv_iload_n hx hb dX7_checkRange_1 rfl (lv_at hl 1 rfl) ?_
  refine lv_icmp_lt (tgt := 10) hx hb dX7_checkRange_2 (by decide) (fun c_2 => ?_) (fun c_2 => ?_)
  · exact k_throwW hE Z X hout hlocks hl.1 kThr_IAE (inU_6 _ (List.mem_of_getElem? (i := 19) rfl)) (inU_6 _ (List.mem_of_getElem? (i := 20) rfl)) (text := "an argument is out of range") (List.mem_of_getElem? (i := 18) rfl) dX7_checkRange_10 dX7_checkRange_13 dX7_checkRange_14 dX7_checkRange_17 dX7_checkRange_20 (Nat.le_of_ble_eq_true rfl) ⟨(Nat.le_of_ble_eq_true rfl), (Nat.le_of_ble_eq_true rfl), (Nat.le_of_ble_eq_true rfl), (Nat.le_of_ble_eq_true rfl)⟩ ⟨(Nat.le_of_ble_eq_true rfl), (Nat.le_of_ble_eq_true rfl)⟩ ⟨(Nat.le_of_ble_eq_true rfl), (Nat.le_of_ble_eq_true rfl)⟩ ⟨⟨rfl, inR_0 c_2⟩, rfl, rfl⟩
  · refine lv_iload_n hx hb dX7_checkRange_5 rfl (lv_at hl 0 rfl) ?_
    refine lv_iload_n hx hb dX7_checkRange_6 rfl (lv_at hl 2 rfl) ?_
    refine lv_icmp_le (tgt := 21) hx hb dX7_checkRange_7 (by decide) (fun c_7 => ?_) (fun c_7 => ?_)
    · exact vx_ret (k_vret Z X hr hlocks (Nat.le_of_ble_eq_true rfl) (Nat.le_of_ble_eq_true rfl) dX7_checkRange_21 ⟨inR_t c_2 c_7, rfl, rfl⟩)
    · exact k_throwW hE Z X hout hlocks hl.1 kThr_IAE (inU_6 _ (List.mem_of_getElem? (i := 19) rfl)) (inU_6 _ (List.mem_of_getElem? (i := 20) rfl)) (text := "an argument is out of range") (List.mem_of_getElem? (i := 18) rfl) dX7_checkRange_10 dX7_checkRange_13 dX7_checkRange_14 dX7_checkRange_17 dX7_checkRange_20 (Nat.le_of_ble_eq_true rfl) ⟨(Nat.le_of_ble_eq_true rfl), (Nat.le_of_ble_eq_true rfl), (Nat.le_of_ble_eq_true rfl), (Nat.le_of_ble_eq_true rfl)⟩ ⟨(Nat.le_of_ble_eq_true rfl), (Nat.le_of_ble_eq_true rfl)⟩ ⟨(Nat.le_of_ble_eq_true rfl), (Nat.le_of_ble_eq_true rfl)⟩ ⟨⟨rfl, inR_1 c_7⟩, rfl, rfl⟩
theorem dX7_refuseFull_0 : decode cX7_refuseFull 0 = .ok (.iload_n 0, 1) := by decide +kernel
theorem dX7_refuseFull_1 : decode cX7_refuseFull 1 = .ok (.iload_n 1, 1) := by decide +kernel
theorem dX7_refuseFull_2 : decode cX7_refuseFull 2 = .ok (.if_icmp .lt 14, 3) := by decide +kernel
theorem dX7_refuseFull_5 : decode cX7_refuseFull 5 = .ok (.new 96, 3) := by decide +kernel
theorem dX7_refuseFull_8 : decode cX7_refuseFull 8 = .ok (.dup, 1) := by decide +kernel
theorem dX7_refuseFull_9 : decode cX7_refuseFull 9 = .ok (.ldc_w 291, 3) := by decide +kernel
theorem dX7_refuseFull_12 : decode cX7_refuseFull 12 = .ok (.invokespecial 100, 3) := by decide +kernel
theorem dX7_refuseFull_15 : decode cX7_refuseFull 15 = .ok (.athrow, 1) := by decide +kernel
theorem dX7_refuseFull_16 : decode cX7_refuseFull 16 = .ok (.return_, 1) := by decide +kernel
set_option maxHeartbeats 4000000 in
set_option maxRecDepth 100000 in
theorem c_X7_refuseFull (l : Launch) (E : State) (G : kG) (S T : kSt) (o : Int64) (ad : kAd) (a b : Nat) (hE : kE l E G) (ha9 : a < 2 ^ 31) (hb9 : b < 2 ^ 31) : vx_Met l yX7_refuseFull (.code yX7_refuseFull cX7_refuseFull 2 none :: wsL_law) ({ frames := 6, cells := 1, slots := 6, locals := 90 } : Room) (va_Pc [.int (nI a), .int (nI b)] (kPre E G ad (cto G S T o ad))) (kQv E G (fun ad1 ct1 => a < b ∧ ad = ad1 ∧ ct1 = cto G S T o ad)) (kXC E G (fun x ad1 ct1 => (x = "java/lang/IllegalStateException" ∧ ¬ a < b) ∧ ad = ad1 ∧ ct1 = cto G S T o ad)) 1 6 (kB E.heap.size) := by
  refine vx_ofW (cc := cX7_refuseFull) (maxL := 2) (ret := none) (by decide) rfl ?_
  intro p e s m args below meth c s₁ B hml hout hv
  obtain ⟨rfl, hM, hK, hW0⟩ := hv
  have hlocks := B.notSynchronized
  have hr := B.returns
  have Z : kZ p m c cX7_refuseFull 2 s _ wsL_law RX7 E G := ⟨⟨B.exec, B.bytes, hml, findClass_of_methodNamed B.named, fun w h => atoms_spec (ws := .code yX7_refuseFull cX7_refuseFull 2 none :: wsL_law) B.pre w (List.mem_cons_of_mem _ h)⟩, hM, hK⟩
  have hx := Z.1.1
  have hb := Z.1.2.1
  have X := kX.of hW0
  have hl := lv_entry ([.int (nI a), .int (nI b)]) (n := 2) (Nat.le_of_ble_eq_true rfl)
  rw [lg_entry_eq]
  generalize (lg_sl ([.int (nI a), .int (nI b)]) ++ List.replicate (2 - (lg_sl ([.int (nI a), .int (nI b)])).length) Slot.unset).toArray = ls at hl ⊢
  have hl : lv_has ls 2 [(0, .int (nI a)), (1, .int (nI b))] := hl
  refine lv_iload_n hx hb dX7_refuseFull_0 rfl (lv_at hl 0 rfl) ?_
  refine lv_iload_n hx hb dX7_refuseFull_1 rfl (lv_at hl 1 rfl) ?_
  refine lv_icmp_lt (tgt := 16) hx hb dX7_refuseFull_2 (by decide) (fun c_2 => ?_) (fun c_2 => ?_)
  · have c_2 : a < b := (nI_ltI (a := a) (b := b) (by omega) (by omega)).mp c_2
    exact vx_ret (k_vret Z X hr hlocks (Nat.le_of_ble_eq_true rfl) (Nat.le_of_ble_eq_true rfl) dX7_refuseFull_16 ⟨c_2, rfl, rfl⟩)
  · have c_2 : ¬ a < b := fun h => c_2 ((nI_ltI (a := a) (b := b) (by omega) (by omega)).mpr h)
    exact k_throwW hE Z X hout hlocks hl.1 kThr_ISE (inU_7 _ (List.mem_of_getElem? (i := 4) rfl)) (inU_7 _ (List.mem_of_getElem? (i := 5) rfl)) (text := "there would be more than told") (List.mem_of_getElem? (i := 19) rfl) dX7_refuseFull_5 dX7_refuseFull_8 dX7_refuseFull_9 dX7_refuseFull_12 dX7_refuseFull_15 (Nat.le_of_ble_eq_true rfl) ⟨(Nat.le_of_ble_eq_true rfl), (Nat.le_of_ble_eq_true rfl), (Nat.le_of_ble_eq_true rfl), (Nat.le_of_ble_eq_true rfl)⟩ ⟨(Nat.le_of_ble_eq_true rfl), (Nat.le_of_ble_eq_true rfl)⟩ ⟨(Nat.le_of_ble_eq_true rfl), (Nat.le_of_ble_eq_true rfl)⟩ ⟨⟨rfl, c_2⟩, rfl, rfl⟩
theorem dX7_refuseGone_0 : decode cX7_refuseGone 0 = .ok (.aload_n 1, 1) := by decide +kernel
theorem dX7_refuseGone_1 : decode cX7_refuseGone 1 = .ok (.aload_n 0, 1) := by decide +kernel
theorem dX7_refuseGone_2 : decode cX7_refuseGone 2 = .ok (.getfield 51, 3) := by decide +kernel
theorem dX7_refuseGone_5 : decode cX7_refuseGone 5 = .ok (.invokevirtual 293, 3) := by decide +kernel
theorem dX7_refuseGone_8 : decode cX7_refuseGone 8 = .ok (.ifCond .eq 14, 3) := by decide +kernel
theorem dX7_refuseGone_11 : decode cX7_refuseGone 11 = .ok (.new 96, 3) := by decide +kernel
theorem dX7_refuseGone_14 : decode cX7_refuseGone 14 = .ok (.dup, 1) := by decide +kernel
theorem dX7_refuseGone_15 : decode cX7_refuseGone 15 = .ok (.ldc_w 297, 3) := by decide +kernel
theorem dX7_refuseGone_18 : decode cX7_refuseGone 18 = .ok (.invokespecial 100, 3) := by decide +kernel
theorem dX7_refuseGone_21 : decode cX7_refuseGone 21 = .ok (.athrow, 1) := by decide +kernel
theorem dX7_refuseGone_22 : decode cX7_refuseGone 22 = .ok (.return_, 1) := by decide +kernel
set_option maxHeartbeats 4000000 in
set_option maxRecDepth 100000 in
theorem c_X7_refuseGone (l : Launch) (E : State) (G : kG) (S T : kSt) (o : Int64) (ad : kAd) (j : Nat) (hE : kE l E G) (hj : j < S.2 0 0) : vx_Met l yX7_refuseGone (.code yX7_refuseGone cX7_refuseGone 2 none :: wsL_law) ({ frames := 6, cells := 1, slots := 6, locals := 90 } : Room) (va_Pc [.ref (ad 0 0), .ref (ad 4 j)] (kPre E G ad (cto G S T o ad))) (kQv E G (fun ad1 ct1 => gone S j = false ∧ ad = ad1 ∧ ct1 = cto G S T o ad)) (kXC E G (fun x ad1 ct1 => (x = "java/lang/IllegalStateException" ∧ gone S j = true) ∧ ad = ad1 ∧ ct1 = cto G S T o ad)) 1 6 (kB E.heap.size) := by
  refine vx_ofW (cc := cX7_refuseGone) (maxL := 2) (ret := none) (by decide) rfl ?_
  intro p e s m args below meth c s₁ B hml hout hv
  obtain ⟨rfl, hM, hK, hW0⟩ := hv
  have hlocks := B.notSynchronized
  have hr := B.returns
  have Z : kZ p m c cX7_refuseGone 2 s _ wsL_law RX7 E G := ⟨⟨B.exec, B.bytes, hml, findClass_of_methodNamed B.named, fun w h => atoms_spec (ws := .code yX7_refuseGone cX7_refuseGone 2 none :: wsL_law) B.pre w (List.mem_cons_of_mem _ h)⟩, hM, hK⟩
  have hx := Z.1.1
  have hb := Z.1.2.1
  have X := kX.of hW0
  have hl := lv_entry ([.ref (ad 0 0), .ref (ad 4 j)]) (n := 2) (Nat.le_of_ble_eq_true rfl)
  rw [lg_entry_eq]
  generalize (lg_sl ([.ref (ad 0 0), .ref (ad 4 j)]) ++ List.replicate (2 - (lg_sl ([.ref (ad 0 0), .ref (ad 4 j)])).length) Slot.unset).toArray = ls at hl ⊢
  have hl : lv_has ls 2 [(0, .ref (ad 0 0)), (1, .ref (ad 4 j))] := hl
  refine lv_aload_n hx hb dX7_refuseGone_0 rfl (lv_at hl 1 rfl) ?_
  refine lv_aload_n hx hb dX7_refuseGone_1 rfl (lv_at hl 0 rfl) ?_
  refine k_get (index := 51) (j := 7) (ad := ad) (k := 0) (i := 0) Z X ct_0 inlX7 rfl (by decide) (inU_2 _ (List.mem_of_getElem? (i := 10) rfl)) (fun _ h => h) (v := .int (S.1 0 0)) rfl dX7_refuseGone_2 ?_
  refine k_Ri X (k_runV (As := [.int (S.1 0 0)]) (rest := []) Z X (c_X6_isGoneAt l E G S T o ad j hj) (k_cwV 1 Z.1.2.2.2.2 (inU_11 _ (List.mem_of_getElem? (i := 17) rfl)) (inU_10 _ (List.mem_of_getElem? (i := 0) rfl)) (inU_10 _ (List.mem_of_getElem? (i := 1) rfl)) (inU_6 _ (List.mem_of_getElem? (i := 14) rfl)) (inU_10 _ (List.mem_of_getElem? (i := 2) rfl)) rfl rfl (by decide +kernel) ⟨Nat.le_of_ble_eq_true rfl, Nat.le_of_ble_eq_true rfl⟩) (k_recv Z X (ct_4 (by first | assumption | omega | decide)) rfl) rfl hl.1 rfl (Nat.le_of_ble_eq_true rfl) dX7_refuseGone_5 ⟨(by first | exact Nat.le_of_ble_eq_true rfl | (show _ ≤ (_ : Nat); simp only [headSpec]; omega)), (by first | exact Nat.le_of_ble_eq_true rfl | (show _ ≤ (_ : Nat); simp only [headSpec]; omega))⟩) (fun r_5 ad1 ct1 H locs hp X => ?_)
  obtain ⟨rfl, ha_, hb_⟩ := hp
  rw [← ha_, hb_] at X
  refine lv_if_eq (tgt := 22) hx hb dX7_refuseGone_8 (by decide) (fun c_8 => ?_) (fun c_8 => ?_)
  · have c_8 : gone S j = false := bI_0 c_8
    exact vx_ret (k_vret Z X hr hlocks (Nat.le_of_ble_eq_true rfl) (Nat.le_of_ble_eq_true rfl) dX7_refuseGone_22 ⟨c_8, rfl, rfl⟩)
  · have c_8 : gone S j = true := bI_1 c_8
    exact k_throwW hE Z X hout hlocks hl.1 kThr_ISE (inU_7 _ (List.mem_of_getElem? (i := 4) rfl)) (inU_7 _ (List.mem_of_getElem? (i := 5) rfl)) (text := "the user is gone") (List.mem_of_getElem? (i := 20) rfl) dX7_refuseGone_11 dX7_refuseGone_14 dX7_refuseGone_15 dX7_refuseGone_18 dX7_refuseGone_21 (Nat.le_of_ble_eq_true rfl) ⟨(Nat.le_of_ble_eq_true rfl), (Nat.le_of_ble_eq_true rfl), (Nat.le_of_ble_eq_true rfl), (Nat.le_of_ble_eq_true rfl)⟩ ⟨(Nat.le_of_ble_eq_true rfl), (Nat.le_of_ble_eq_true rfl)⟩ ⟨(Nat.le_of_ble_eq_true rfl), (Nat.le_of_ble_eq_true rfl)⟩ ⟨⟨rfl, c_8⟩, rfl, rfl⟩
theorem dX7_refuseArchived_0 : decode cX7_refuseArchived 0 = .ok (.aload_n 0, 1) := by decide +kernel
theorem dX7_refuseArchived_1 : decode cX7_refuseArchived 1 = .ok (.getfield 218, 3) := by decide +kernel
theorem dX7_refuseArchived_4 : decode cX7_refuseArchived 4 = .ok (.ifCond .eq 14, 3) := by decide +kernel
theorem dX7_refuseArchived_7 : decode cX7_refuseArchived 7 = .ok (.new 96, 3) := by decide +kernel
theorem dX7_refuseArchived_10 : decode cX7_refuseArchived 10 = .ok (.dup, 1) := by decide +kernel
theorem dX7_refuseArchived_11 : decode cX7_refuseArchived 11 = .ok (.ldc_w 299, 3) := by decide +kernel
theorem dX7_refuseArchived_14 : decode cX7_refuseArchived 14 = .ok (.invokespecial 100, 3) := by decide +kernel
theorem dX7_refuseArchived_17 : decode cX7_refuseArchived 17 = .ok (.athrow, 1) := by decide +kernel
theorem dX7_refuseArchived_18 : decode cX7_refuseArchived 18 = .ok (.return_, 1) := by decide +kernel
set_option maxHeartbeats 4000000 in
set_option maxRecDepth 100000 in
theorem c_X7_refuseArchived (l : Launch) (E : State) (G : kG) (S T : kSt) (o : Int64) (ad : kAd) (a : Nat) (hE : kE l E G) (ha9 : a < S.2 0 1) : vx_Met l yX7_refuseArchived (.code yX7_refuseArchived cX7_refuseArchived 1 none :: wsL_law) ({ frames := 6, cells := 1, slots := 6, locals := 90 } : Room) (va_Pc [.ref (ad 5 a)] (kPre E G ad (cto G S T o ad))) (kQv E G (fun ad1 ct1 => S.1 8 a = 0 ∧ ad = ad1 ∧ ct1 = cto G S T o ad)) (kXC E G (fun x ad1 ct1 => (x = "java/lang/IllegalStateException" ∧ ¬ S.1 8 a = 0) ∧ ad = ad1 ∧ ct1 = cto G S T o ad)) 1 6 (kB E.heap.size) := by
  refine vx_ofW (cc := cX7_refuseArchived) (maxL := 1) (ret := none) (by decide) rfl ?_
  intro p e s m args below meth c s₁ B hml hout hv
  obtain ⟨rfl, hM, hK, hW0⟩ := hv
  have hlocks := B.notSynchronized
  have hr := B.returns
  have Z : kZ p m c cX7_refuseArchived 1 s _ wsL_law RX7 E G := ⟨⟨B.exec, B.bytes, hml, findClass_of_methodNamed B.named, fun w h => atoms_spec (ws := .code yX7_refuseArchived cX7_refuseArchived 1 none :: wsL_law) B.pre w (List.mem_cons_of_mem _ h)⟩, hM, hK⟩
  have hx := Z.1.1
  have hb := Z.1.2.1
  have X := kX.of hW0
  have hl := lv_entry ([.ref (ad 5 a)]) (n := 1) (Nat.le_of_ble_eq_true rfl)
  rw [lg_entry_eq]
  generalize (lg_sl ([.ref (ad 5 a)]) ++ List.replicate (1 - (lg_sl ([.ref (ad 5 a)])).length) Slot.unset).toArray = ls at hl ⊢
  have hl : lv_has ls 1 [(0, .ref (ad 5 a))] := hl
  refine lv_aload_n hx hb dX7_refuseArchived_0 rfl (lv_at hl 0 rfl) ?_
  refine k_get (index := 218) (j := 7) (ad := ad) (k := 5) (i := a) Z X (ct_5 (by first | assumption | omega | decide)) inlX3 rfl (by decide) (inU_11 _ (List.mem_of_getElem? (i := 12) rfl)) (fun _ h => h) (v := .int (S.1 8 a)) rfl dX7_refuseArchived_1 ?_
  refine lv_if_eq (tgt := 18) hx hb dX7_refuseArchived_4 (by decide) (fun c_4 => ?_) (fun c_4 => ?_)
  · exact vx_ret (k_vret Z X hr hlocks (Nat.le_of_ble_eq_true rfl) (Nat.le_of_ble_eq_true rfl) dX7_refuseArchived_18 ⟨c_4, rfl, rfl⟩)
  · exact k_throwW hE Z X hout hlocks hl.1 kThr_ISE (inU_7 _ (List.mem_of_getElem? (i := 4) rfl)) (inU_7 _ (List.mem_of_getElem? (i := 5) rfl)) (text := "the message is archived") (List.mem_of_getElem? (i := 21) rfl) dX7_refuseArchived_7 dX7_refuseArchived_10 dX7_refuseArchived_11 dX7_refuseArchived_14 dX7_refuseArchived_17 (Nat.le_of_ble_eq_true rfl) ⟨(Nat.le_of_ble_eq_true rfl), (Nat.le_of_ble_eq_true rfl), (Nat.le_of_ble_eq_true rfl), (Nat.le_of_ble_eq_true rfl)⟩ ⟨(Nat.le_of_ble_eq_true rfl), (Nat.le_of_ble_eq_true rfl)⟩ ⟨(Nat.le_of_ble_eq_true rfl), (Nat.le_of_ble_eq_true rfl)⟩ ⟨⟨rfl, c_4⟩, rfl, rfl⟩
theorem dX7_countMarks_0 : decode cX7_countMarks 0 = .ok (.iconst 0, 1) := by decide +kernel
theorem dX7_countMarks_1 : decode cX7_countMarks 1 = .ok (.istore_n 2, 1) := by decide +kernel
theorem dX7_countMarks_2 : decode cX7_countMarks 2 = .ok (.iconst 0, 1) := by decide +kernel
theorem dX7_countMarks_3 : decode cX7_countMarks 3 = .ok (.istore_n 3, 1) := by decide +kernel
theorem dX7_countMarks_4 : decode cX7_countMarks 4 = .ok (.iload_n 3, 1) := by decide +kernel
theorem dX7_countMarks_5 : decode cX7_countMarks 5 = .ok (.aload_n 0, 1) := by decide +kernel
theorem dX7_countMarks_6 : decode cX7_countMarks 6 = .ok (.getfield 25, 3) := by decide +kernel
theorem dX7_countMarks_9 : decode cX7_countMarks 9 = .ok (.invokevirtual 59, 3) := by decide +kernel
theorem dX7_countMarks_12 : decode cX7_countMarks 12 = .ok (.if_icmp .ge 42, 3) := by decide +kernel
theorem dX7_countMarks_15 : decode cX7_countMarks 15 = .ok (.aload_n 1, 1) := by decide +kernel
theorem dX7_countMarks_16 : decode cX7_countMarks 16 = .ok (.iload_n 3, 1) := by decide +kernel
theorem dX7_countMarks_17 : decode cX7_countMarks 17 = .ok (.invokevirtual 151, 3) := by decide +kernel
theorem dX7_countMarks_20 : decode cX7_countMarks 20 = .ok (.iconst (-1), 1) := by decide +kernel
theorem dX7_countMarks_21 : decode cX7_countMarks 21 = .ok (.if_icmp .eq 27, 3) := by decide +kernel
theorem dX7_countMarks_24 : decode cX7_countMarks 24 = .ok (.aload_n 0, 1) := by decide +kernel
theorem dX7_countMarks_25 : decode cX7_countMarks 25 = .ok (.getfield 25, 3) := by decide +kernel
theorem dX7_countMarks_28 : decode cX7_countMarks 28 = .ok (.iload_n 3, 1) := by decide +kernel
theorem dX7_countMarks_29 : decode cX7_countMarks 29 = .ok (.invokevirtual 210, 3) := by decide +kernel
theorem dX7_countMarks_32 : decode cX7_countMarks 32 = .ok (.checkcast 67, 3) := by decide +kernel
theorem dX7_countMarks_35 : decode cX7_countMarks 35 = .ok (.aload_n 0, 1) := by decide +kernel
theorem dX7_countMarks_36 : decode cX7_countMarks 36 = .ok (.getfield 51, 3) := by decide +kernel
theorem dX7_countMarks_39 : decode cX7_countMarks 39 = .ok (.invokevirtual 301, 3) := by decide +kernel
theorem dX7_countMarks_42 : decode cX7_countMarks 42 = .ok (.ifCond .eq 6, 3) := by decide +kernel
theorem dX7_countMarks_45 : decode cX7_countMarks 45 = .ok (.iinc 2 1, 3) := by decide +kernel
theorem dX7_countMarks_48 : decode cX7_countMarks 48 = .ok (.iinc 3 1, 3) := by decide +kernel
theorem dX7_countMarks_51 : decode cX7_countMarks 51 = .ok (.goto (-47), 3) := by decide +kernel
theorem dX7_countMarks_54 : decode cX7_countMarks 54 = .ok (.iload_n 2, 1) := by decide +kernel
theorem dX7_countMarks_55 : decode cX7_countMarks 55 = .ok (.ireturn, 1) := by decide +kernel
set_option maxHeartbeats 4000000 in
set_option maxRecDepth 100000 in
theorem c_X7_countMarks (l : Launch) (E : State) (G : kG) (S T : kSt) (o : Int64) (ad : kAd) (mk mi ma mj : Nat) (kd : Nat → Int32) (hm : cto G S T o ad mk mi = some (.inr (5, [.ref (ad ma mj)]))) (ha9 : cto G S T o ad ma mj = some (.inl (G.2.2.1, 12, .inl kd))) (hS : okN S) (hL : okL S) : Met l yX7_countMarks (.code yX7_countMarks cX7_countMarks 4 (some .int) :: wsL_law) ({ frames := 6, cells := 0, slots := 0, locals := 150 } : Room) (va_Pc [.ref (ad 0 0), .ref (ad mk mi)] (kPre E G ad (cto G S T o ad))) (kQi E G (fun r ad1 ct1 => r = nI (cntN S kd (S.2 0 0)) ∧ ad = ad1 ∧ ct1 = cto G S T o ad)) 0 0 (kB E.heap.size) := by
  refine Met.ofW (cc := cX7_countMarks) (maxL := 4) (ret := (some .int)) (by decide) rfl ?_
  intro p e s m args below meth c s₁ B hml hv
  obtain ⟨rfl, hM, hK, hW0⟩ := hv
  have hlocks := B.notSynchronized
  have hr := B.returns
  have Z : kZ p m c cX7_countMarks 4 s _ wsL_law RX7 E G := ⟨⟨B.exec, B.bytes, hml, findClass_of_methodNamed B.named, fun w h => atoms_spec (ws := .code yX7_countMarks cX7_countMarks 4 (some .int) :: wsL_law) B.pre w (List.mem_cons_of_mem _ h)⟩, hM, hK⟩
  have hx := Z.1.1
  have hb := Z.1.2.1
  have X := kX.of hW0
  have hl := lv_entry ([.ref (ad 0 0), .ref (ad mk mi)]) (n := 4) (Nat.le_of_ble_eq_true rfl)
  rw [lg_entry_eq]
  generalize (lg_sl ([.ref (ad 0 0), .ref (ad mk mi)]) ++ List.replicate (4 - (lg_sl ([.ref (ad 0 0), .ref (ad mk mi)])).length) Slot.unset).toArray = ls at hl ⊢
  have hl : lv_has ls 4 [(0, .ref (ad 0 0)), (1, .ref (ad mk mi))] := hl
  obtain ⟨hT1, hT2, hT3, hT4, hT5, hT6, hT7⟩ := id hS
  refine lv_iconst (v := 0) hx hb dX7_countMarks_0 (by decide) ?_
  refine lv_istore_n (lv' := [(2, .int 0), (0, .ref (ad 0 0)), (1, .ref (ad mk mi))]) hx hb dX7_countMarks_1 rfl hl (by decide) rfl (fun ls hl => ?_)
  refine lv_iconst (v := 0) hx hb dX7_countMarks_2 (by decide) ?_
  refine lv_istore_n (lv' := [(3, .int 0), (2, .int 0), (0, .ref (ad 0 0)), (1, .ref (ad mk mi))]) hx hb dX7_countMarks_3 rfl hl (by decide) rfl (fun ls hl => ?_)
  have LOOP_4 : ∀ (d : Nat) (n : Nat), n ≤ S.2 0 0 → S.2 0 0 < n + d → ∀ (H : Heap) (locs : List Loc) (ls : Array Slot), kX E G s H locs ad (cto G S T o ad) → lv_has ls 4 [(3, .int (nI n)), (2, .int (nI (cntN S kd n))), (0, .ref (ad 0 0)), (1, .ref (ad mk mi))] → W p l e (headSpec (Cond.code yX7_countMarks cX7_countMarks 4 (some .int) :: wsL_law) ({ frames := 6, cells := 0, slots := 0, locals := 150 } : Room)).room s m ([.ref (ad 0 0), .ref (ad mk mi)] : List Value).toArray below meth c H locs 0 0 (MQ below (kQi E G (fun r ad1 ct1 => r = nI (cntN S kd (S.2 0 0)) ∧ ad = ad1 ∧ ct1 = cto G S T o ad)) ([.ref (ad 0 0), .ref (ad mk mi)] : List Value).toArray s 0 0 (kB E.heap.size)) (F0 m 4 ls []) := by
    intro d
    induction d with
    | zero => intro n h1 h2; intros; exact absurd h2 (by omega)
    | succ d ih =>
      intro n h1 h2 H locs ls X hl
      refine lv_iload_n hx hb dX7_countMarks_4 rfl (lv_at hl 0 rfl) ?_
      refine lv_aload_n hx hb dX7_countMarks_5 rfl (lv_at hl 2 rfl) ?_
      refine k_get (index := 25) (j := 1) (ad := ad) (k := 0) (i := 0) Z X ct_0 inlX7 rfl (by decide) (inU_1 _ (List.mem_of_getElem? (i := 22) rfl)) (fun _ h => h) (v := .ref (ad 1 1)) rfl dX7_countMarks_6 ?_
      refine k_Ri X (k_runV (As := []) (rest := [.int (nI n)]) Z X (c_Jx4a65c_size_8abf5 l E G ad (cto G S T o ad) 1 _ _ (nI (S.2 0 0)) (ct_1 (by decide))) (k_cwV 0 Z.1.2.2.2.2 (inU_6 _ (List.mem_of_getElem? (i := 21) rfl)) (inU_6 _ (List.mem_of_getElem? (i := 22) rfl)) (inU_6 _ (List.mem_of_getElem? (i := 23) rfl)) (inU_1 _ (List.mem_of_getElem? (i := 17) rfl)) (inU_7 _ (List.mem_of_getElem? (i := 0) rfl)) rfl rfl (by decide +kernel) ⟨Nat.le_of_ble_eq_true rfl, Nat.le_of_ble_eq_true rfl⟩) (k_recv Z X (ct_1 (by decide)) rfl) rfl hl.1 rfl (Nat.le_of_ble_eq_true rfl) dX7_countMarks_9 ⟨(by first | exact Nat.le_of_ble_eq_true rfl | (show _ ≤ (_ : Nat); simp only [headSpec]; omega)), (by first | exact Nat.le_of_ble_eq_true rfl | (show _ ≤ (_ : Nat); simp only [headSpec]; omega))⟩) (fun r_9 ad1 ct1 H locs hp X => ?_)
      obtain ⟨rfl, ha_, hb_⟩ := hp
      rw [← ha_, hb_] at X
      refine lv_icmp_ge (tgt := 54) hx hb dX7_countMarks_12 (by decide) (fun c_12 => ?_) (fun c_12 => ?_)
      · have c_12 : (S.2 0 0) ≤ n := (nI_leI (a := (S.2 0 0)) (b := n) (by omega) (by omega)).mp c_12
        refine lv_iload_n hx hb dX7_countMarks_54 rfl (lv_at hl 1 rfl) ?_
        have hn : n = S.2 0 0 := by omega
        subst hn
        exact k_iret Z X hr hlocks rfl (Nat.le_of_ble_eq_true rfl) (Nat.le_of_ble_eq_true rfl) dX7_countMarks_55 ⟨rfl, rfl, rfl⟩
      · have c_12 : ¬ (S.2 0 0) ≤ n := fun h => c_12 ((nI_leI (a := (S.2 0 0)) (b := n) (by omega) (by omega)).mpr h)
        refine lv_aload_n hx hb dX7_countMarks_15 rfl (lv_at hl 3 rfl) ?_
        refine lv_iload_n hx hb dX7_countMarks_16 rfl (lv_at hl 0 rfl) ?_
        refine k_Ri X (k_runV (As := [.int (nI n)]) (rest := []) Z X (c_X2_kindOf l E G ad (cto G S T o ad) mk mi ma mj n kd hm ha9 (by omega)) (k_cwV 1 Z.1.2.2.2.2 (inU_9 _ (List.mem_of_getElem? (i := 15) rfl)) (inU_9 _ (List.mem_of_getElem? (i := 16) rfl)) (inU_9 _ (List.mem_of_getElem? (i := 17) rfl)) (inU_2 _ (List.mem_of_getElem? (i := 8) rfl)) (inU_9 _ (List.mem_of_getElem? (i := 18) rfl)) rfl rfl (by decide +kernel) ⟨Nat.le_of_ble_eq_true rfl, Nat.le_of_ble_eq_true rfl⟩) (k_recv Z X hm rfl) rfl hl.1 rfl (Nat.le_of_ble_eq_true rfl) dX7_countMarks_17 ⟨(by first | exact Nat.le_of_ble_eq_true rfl | (show _ ≤ (_ : Nat); simp only [headSpec]; omega)), (by first | exact Nat.le_of_ble_eq_true rfl | (show _ ≤ (_ : Nat); simp only [headSpec]; omega))⟩) (fun r_17 ad1 ct1 H locs hp X => ?_)
        obtain ⟨rfl, ha_, hb_⟩ := hp
        rw [← ha_, hb_] at X
        refine lv_iconst (v := (-1)) hx hb dX7_countMarks_20 (by decide) ?_
        refine lv_icmp_eq (tgt := 48) hx hb dX7_countMarks_21 (by decide) (fun c_21 => ?_) (fun c_21 => ?_)
        · have hcn : cnts S kd n = false := cnts_n c_21
          refine lv_iinc (v := (nI (n + 1))) (lv' := [(3, .int (nI (n + 1))), (2, .int (nI (cntN S kd n))), (0, .ref (ad 0 0)), (1, .ref (ad mk mi))]) hx hb dX7_countMarks_48 hl (k := 0) rfl (nI_1 _) (by decide) rfl (fun ls hl => ?_)
          refine lv_goto (tgt := 4) hx hb dX7_countMarks_51 (by decide) ?_
          have e2 : cntN S kd (n + 1) = cntN S kd n := by simp [cntN, hcn]
          rw [← e2] at hl
          exact ih (n + 1) (by omega) (by omega) _ _ _ X (lv_sub hl [0, 1, 2, 3] rfl)
        · refine lv_aload_n hx hb dX7_countMarks_24 rfl (lv_at hl 2 rfl) ?_
          refine k_get (index := 25) (j := 1) (ad := ad) (k := 0) (i := 0) Z X ct_0 inlX7 rfl (by decide) (inU_1 _ (List.mem_of_getElem? (i := 22) rfl)) (fun _ h => h) (v := .ref (ad 1 1)) rfl dX7_countMarks_25 ?_
          refine lv_iload_n hx hb dX7_countMarks_28 rfl (lv_at hl 0 rfl) ?_
          refine k_Rq X (k_runV (As := [.int (nI n)]) (rest := []) Z X (c_getS l E G S T o ad 1 n (by decide) hL (by show _ < (_ : Nat); simp only [lcnt]; omega)) (k_cwV 1 Z.1.2.2.2.2 (inU_8 _ (List.mem_of_getElem? (i := 1) rfl)) (inU_8 _ (List.mem_of_getElem? (i := 2) rfl)) (inU_8 _ (List.mem_of_getElem? (i := 3) rfl)) (inU_1 _ (List.mem_of_getElem? (i := 17) rfl)) (inU_8 _ (List.mem_of_getElem? (i := 4) rfl)) rfl rfl (by decide +kernel) ⟨Nat.le_of_ble_eq_true rfl, Nat.le_of_ble_eq_true rfl⟩) (k_recv Z X (ct_1 (by decide)) rfl) rfl hl.1 rfl (Nat.le_of_ble_eq_true rfl) dX7_countMarks_29 ⟨(by first | exact Nat.le_of_ble_eq_true rfl | (show _ ≤ (_ : Nat); simp only [headSpec]; omega)), (by first | exact Nat.le_of_ble_eq_true rfl | (show _ ≤ (_ : Nat); simp only [headSpec]; omega))⟩) (fun r_29 ad1 ct1 H locs hp X => ?_)
          obtain ⟨rfl, ha_, hb_⟩ := hp
          rw [← ha_, hb_] at X
          refine k_cast (r := (RX6, TX6, 3)) Z X (ct_4 (by first | assumption | omega | decide)) rfl (inU_8 _ (List.mem_of_getElem? (i := 0) rfl)) dX7_countMarks_32 ?_
          refine lv_aload_n hx hb dX7_countMarks_35 rfl (lv_at hl 2 rfl) ?_
          refine k_get (index := 51) (j := 7) (ad := ad) (k := 0) (i := 0) Z X ct_0 inlX7 rfl (by decide) (inU_2 _ (List.mem_of_getElem? (i := 10) rfl)) (fun _ h => h) (v := .int (S.1 0 0)) rfl dX7_countMarks_36 ?_
          refine k_Ri X (k_runV (As := [.int (S.1 0 0)]) (rest := []) Z X (c_X6_countsAt l E G S T o ad n (by omega)) (k_cwV 1 Z.1.2.2.2.2 (inU_9 _ (List.mem_of_getElem? (i := 19) rfl)) (inU_9 _ (List.mem_of_getElem? (i := 20) rfl)) (inU_9 _ (List.mem_of_getElem? (i := 21) rfl)) (inU_6 _ (List.mem_of_getElem? (i := 14) rfl)) (inU_9 _ (List.mem_of_getElem? (i := 22) rfl)) rfl rfl (by decide +kernel) ⟨Nat.le_of_ble_eq_true rfl, Nat.le_of_ble_eq_true rfl⟩) (k_recv Z X (ct_4 (by first | assumption | omega | decide)) rfl) rfl hl.1 rfl (Nat.le_of_ble_eq_true rfl) dX7_countMarks_39 ⟨(by first | exact Nat.le_of_ble_eq_true rfl | (show _ ≤ (_ : Nat); simp only [headSpec]; omega)), (by first | exact Nat.le_of_ble_eq_true rfl | (show _ ≤ (_ : Nat); simp only [headSpec]; omega))⟩) (fun r_39 ad1 ct1 H locs hp X => ?_)
          obtain ⟨rfl, ha_, hb_⟩ := hp
          rw [← ha_, hb_] at X
          refine lv_if_eq (tgt := 48) hx hb dX7_countMarks_42 (by decide) (fun c_42 => ?_) (fun c_42 => ?_)
          · have hcn : cnts S kd n = false := cnts_f (bI_0 c_42)
            refine lv_iinc (v := (nI (n + 1))) (lv' := [(3, .int (nI (n + 1))), (2, .int (nI (cntN S kd n))), (0, .ref (ad 0 0)), (1, .ref (ad mk mi))]) hx hb dX7_countMarks_48 hl (k := 0) rfl (nI_1 _) (by decide) rfl (fun ls hl => ?_)
            refine lv_goto (tgt := 4) hx hb dX7_countMarks_51 (by decide) ?_
            have e2 : cntN S kd (n + 1) = cntN S kd n := by simp [cntN, hcn]
            rw [← e2] at hl
            exact ih (n + 1) (by omega) (by omega) _ _ _ X (lv_sub hl [0, 1, 2, 3] rfl)
          · have hcn : cnts S kd n = true := cnts_t c_21 (bI_1 c_42)
            refine lv_iinc (v := (nI (cntN S kd (n + 1)))) (lv' := [(2, .int (nI (cntN S kd (n + 1)))), (3, .int (nI n)), (0, .ref (ad 0 0)), (1, .ref (ad mk mi))]) hx hb dX7_countMarks_45 hl (k := 1) rfl (by rw [show cntN S kd (n + 1) = cntN S kd n + 1 from by simp [cntN, hcn]]; exact nI_1 _) (by decide) rfl (fun ls hl => ?_)
            refine lv_iinc (v := (nI (n + 1))) (lv' := [(3, .int (nI (n + 1))), (2, .int (nI (cntN S kd (n + 1)))), (0, .ref (ad 0 0)), (1, .ref (ad mk mi))]) hx hb dX7_countMarks_48 hl (k := 1) rfl (nI_1 _) (by decide) rfl (fun ls hl => ?_)
            refine lv_goto (tgt := 4) hx hb dX7_countMarks_51 (by decide) ?_
            exact ih (n + 1) (by omega) (by omega) _ _ _ X (lv_sub hl [0, 1, 2, 3] rfl)
  exact LOOP_4 (S.2 0 0 + 1) 0 (by omega) (by omega) _ _ _ X (lv_sub hl [0, 1, 2, 3] rfl)
theorem dX7_approve_0 : decode cX7_approve 0 = .ok (.iconst 0, 1) := by decide +kernel
theorem dX7_approve_1 : decode cX7_approve 1 = .ok (.istore 4, 2) := by decide +kernel
theorem dX7_approve_3 : decode cX7_approve 3 = .ok (.iconst 0, 1) := by decide +kernel
theorem dX7_approve_4 : decode cX7_approve 4 = .ok (.istore 5, 2) := by decide +kernel
theorem dX7_approve_6 : decode cX7_approve 6 = .ok (.iconst 0, 1) := by decide +kernel
theorem dX7_approve_7 : decode cX7_approve 7 = .ok (.istore 6, 2) := by decide +kernel
theorem dX7_approve_9 : decode cX7_approve 9 = .ok (.iload 6, 2) := by decide +kernel
theorem dX7_approve_11 : decode cX7_approve 11 = .ok (.aload_n 0, 1) := by decide +kernel
theorem dX7_approve_12 : decode cX7_approve 12 = .ok (.getfield 25, 3) := by decide +kernel
theorem dX7_approve_15 : decode cX7_approve 15 = .ok (.invokevirtual 59, 3) := by decide +kernel
theorem dX7_approve_18 : decode cX7_approve 18 = .ok (.if_icmp .ge 103, 3) := by decide +kernel
theorem dX7_approve_21 : decode cX7_approve 21 = .ok (.aload_n 0, 1) := by decide +kernel
theorem dX7_approve_22 : decode cX7_approve 22 = .ok (.getfield 25, 3) := by decide +kernel
theorem dX7_approve_25 : decode cX7_approve 25 = .ok (.iload 6, 2) := by decide +kernel
theorem dX7_approve_27 : decode cX7_approve 27 = .ok (.invokevirtual 210, 3) := by decide +kernel
theorem dX7_approve_30 : decode cX7_approve 30 = .ok (.checkcast 67, 3) := by decide +kernel
theorem dX7_approve_33 : decode cX7_approve 33 = .ok (.astore 7, 2) := by decide +kernel
theorem dX7_approve_35 : decode cX7_approve 35 = .ok (.aload_n 1, 1) := by decide +kernel
theorem dX7_approve_36 : decode cX7_approve 36 = .ok (.iload 6, 2) := by decide +kernel
theorem dX7_approve_38 : decode cX7_approve 38 = .ok (.invokevirtual 151, 3) := by decide +kernel
theorem dX7_approve_41 : decode cX7_approve 41 = .ok (.istore 8, 2) := by decide +kernel
theorem dX7_approve_43 : decode cX7_approve 43 = .ok (.iload 8, 2) := by decide +kernel
theorem dX7_approve_45 : decode cX7_approve 45 = .ok (.iconst (-1), 1) := by decide +kernel
theorem dX7_approve_46 : decode cX7_approve 46 = .ok (.if_icmp .eq 69, 3) := by decide +kernel
theorem dX7_approve_49 : decode cX7_approve 49 = .ok (.aload 7, 2) := by decide +kernel
theorem dX7_approve_51 : decode cX7_approve 51 = .ok (.aload_n 0, 1) := by decide +kernel
theorem dX7_approve_52 : decode cX7_approve 52 = .ok (.getfield 51, 3) := by decide +kernel
theorem dX7_approve_55 : decode cX7_approve 55 = .ok (.invokevirtual 301, 3) := by decide +kernel
theorem dX7_approve_58 : decode cX7_approve 58 = .ok (.ifCond .ne 6, 3) := by decide +kernel
theorem dX7_approve_61 : decode cX7_approve 61 = .ok (.goto 54, 3) := by decide +kernel
theorem dX7_approve_64 : decode cX7_approve 64 = .ok (.iload 8, 2) := by decide +kernel
theorem dX7_approve_66 : decode cX7_approve 66 = .ok (.iconst 1, 1) := by decide +kernel
theorem dX7_approve_67 : decode cX7_approve 67 = .ok (.if_icmp .ne 5, 3) := by decide +kernel
theorem dX7_approve_70 : decode cX7_approve 70 = .ok (.iconst 0, 1) := by decide +kernel
theorem dX7_approve_71 : decode cX7_approve 71 = .ok (.ireturn, 1) := by decide +kernel
theorem dX7_approve_72 : decode cX7_approve 72 = .ok (.aload 7, 2) := by decide +kernel
theorem dX7_approve_74 : decode cX7_approve 74 = .ok (.getfield 78, 3) := by decide +kernel
theorem dX7_approve_77 : decode cX7_approve 77 = .ok (.iconst 2, 1) := by decide +kernel
theorem dX7_approve_78 : decode cX7_approve 78 = .ok (.if_icmp .lt 37, 3) := by decide +kernel
theorem dX7_approve_81 : decode cX7_approve 81 = .ok (.iload 6, 2) := by decide +kernel
theorem dX7_approve_83 : decode cX7_approve 83 = .ok (.aload_n 2, 1) := by decide +kernel
theorem dX7_approve_84 : decode cX7_approve 84 = .ok (.getfield 130, 3) := by decide +kernel
theorem dX7_approve_87 : decode cX7_approve 87 = .ok (.getfield 71, 3) := by decide +kernel
theorem dX7_approve_90 : decode cX7_approve 90 = .ok (.if_icmp .eq 25, 3) := by decide +kernel
theorem dX7_approve_93 : decode cX7_approve 93 = .ok (.iinc 4 1, 3) := by decide +kernel
theorem dX7_approve_96 : decode cX7_approve 96 = .ok (.iload 5, 2) := by decide +kernel
theorem dX7_approve_98 : decode cX7_approve 98 = .ok (.aload 7, 2) := by decide +kernel
theorem dX7_approve_100 : decode cX7_approve 100 = .ok (.getfield 78, 3) := by decide +kernel
theorem dX7_approve_103 : decode cX7_approve 103 = .ok (.iconst 3, 1) := by decide +kernel
theorem dX7_approve_104 : decode cX7_approve 104 = .ok (.if_icmp .ne 7, 3) := by decide +kernel
theorem dX7_approve_107 : decode cX7_approve 107 = .ok (.iconst 1, 1) := by decide +kernel
theorem dX7_approve_108 : decode cX7_approve 108 = .ok (.goto 4, 3) := by decide +kernel
theorem dX7_approve_111 : decode cX7_approve 111 = .ok (.iconst 0, 1) := by decide +kernel
theorem dX7_approve_112 : decode cX7_approve 112 = .ok (.iadd, 1) := by decide +kernel
theorem dX7_approve_113 : decode cX7_approve 113 = .ok (.istore 5, 2) := by decide +kernel
theorem dX7_approve_115 : decode cX7_approve 115 = .ok (.iinc 6 1, 3) := by decide +kernel
theorem dX7_approve_118 : decode cX7_approve 118 = .ok (.goto (-109), 3) := by decide +kernel
theorem dX7_approve_121 : decode cX7_approve 121 = .ok (.iload_n 3, 1) := by decide +kernel
theorem dX7_approve_122 : decode cX7_approve 122 = .ok (.sipush 1000, 3) := by decide +kernel
theorem dX7_approve_125 : decode cX7_approve 125 = .ok (.if_icmp .gt 17, 3) := by decide +kernel
theorem dX7_approve_128 : decode cX7_approve 128 = .ok (.iload 4, 2) := by decide +kernel
theorem dX7_approve_130 : decode cX7_approve 130 = .ok (.iconst 1, 1) := by decide +kernel
theorem dX7_approve_131 : decode cX7_approve 131 = .ok (.if_icmp .lt 7, 3) := by decide +kernel
theorem dX7_approve_134 : decode cX7_approve 134 = .ok (.iconst 1, 1) := by decide +kernel
theorem dX7_approve_135 : decode cX7_approve 135 = .ok (.goto 24, 3) := by decide +kernel
theorem dX7_approve_138 : decode cX7_approve 138 = .ok (.iconst 0, 1) := by decide +kernel
theorem dX7_approve_139 : decode cX7_approve 139 = .ok (.goto 20, 3) := by decide +kernel
theorem dX7_approve_142 : decode cX7_approve 142 = .ok (.iload 4, 2) := by decide +kernel
theorem dX7_approve_144 : decode cX7_approve 144 = .ok (.iconst 2, 1) := by decide +kernel
theorem dX7_approve_145 : decode cX7_approve 145 = .ok (.if_icmp .lt 13, 3) := by decide +kernel
theorem dX7_approve_148 : decode cX7_approve 148 = .ok (.iload 5, 2) := by decide +kernel
theorem dX7_approve_150 : decode cX7_approve 150 = .ok (.iconst 1, 1) := by decide +kernel
theorem dX7_approve_151 : decode cX7_approve 151 = .ok (.if_icmp .lt 7, 3) := by decide +kernel
theorem dX7_approve_154 : decode cX7_approve 154 = .ok (.iconst 1, 1) := by decide +kernel
theorem dX7_approve_155 : decode cX7_approve 155 = .ok (.goto 4, 3) := by decide +kernel
theorem dX7_approve_158 : decode cX7_approve 158 = .ok (.iconst 0, 1) := by decide +kernel
theorem dX7_approve_159 : decode cX7_approve 159 = .ok (.ireturn, 1) := by decide +kernel
set_option maxHeartbeats 4000000 in
set_option maxRecDepth 100000 in
theorem c_X7_approve (l : Launch) (E : State) (G : kG) (S T : kSt) (o : Int64) (ad : kAd) (mk mi ma mj : Nat) (kd : Nat → Int32) (hm : cto G S T o ad mk mi = some (.inr (5, [.ref (ad ma mj)]))) (ha9 : cto G S T o ad ma mj = some (.inl (G.2.2.1, 12, .inl kd))) (hS : okN S) (hL : okL S) (a : Nat) (x9 : Int32) (ham : a < S.2 0 1) (hkd : ∀ u, u < 12 → kd u = -1 ∨ kd u = 0 ∨ kd u = 1) : Met l yX7_approve (.code yX7_approve cX7_approve 9 (some .boolean) :: wsL_law) ({ frames := 6, cells := 0, slots := 0, locals := 180 } : Room) (va_Pc [.ref (ad 0 0), .ref (ad mk mi), .ref (ad 5 a), .int x9] (kPre E G ad (cto G S T o ad))) (kQi E G (fun r ad1 ct1 => r = bI (appr S kd (S.2 1 a) (S.2 0 0) x9) ∧ ad = ad1 ∧ ct1 = cto G S T o ad)) 0 0 (kB E.heap.size) := by
  refine Met.ofW (cc := cX7_approve) (maxL := 9) (ret := (some .boolean)) (by decide) rfl ?_
  intro p e s m args below meth c s₁ B hml hv
  obtain ⟨rfl, hM, hK, hW0⟩ := hv
  have hlocks := B.notSynchronized
  have hr := B.returns
  have Z : kZ p m c cX7_approve 9 s _ wsL_law RX7 E G := ⟨⟨B.exec, B.bytes, hml, findClass_of_methodNamed B.named, fun w h => atoms_spec (ws := .code yX7_approve cX7_approve 9 (some .boolean) :: wsL_law) B.pre w (List.mem_cons_of_mem _ h)⟩, hM, hK⟩
  have hx := Z.1.1
  have hb := Z.1.2.1
  have X := kX.of hW0
  have hl := lv_entry ([.ref (ad 0 0), .ref (ad mk mi), .ref (ad 5 a), .int x9]) (n := 9) (Nat.le_of_ble_eq_true rfl)
  rw [lg_entry_eq]
  generalize (lg_sl ([.ref (ad 0 0), .ref (ad mk mi), .ref (ad 5 a), .int x9]) ++ List.replicate (9 - (lg_sl ([.ref (ad 0 0), .ref (ad mk mi), .ref (ad 5 a), .int x9])).length) Slot.unset).toArray = ls at hl ⊢
  have hl : lv_has ls 9 [(0, .ref (ad 0 0)), (1, .ref (ad mk mi)), (2, .ref (ad 5 a)), (3, .int x9)] := hl
  obtain ⟨hT1, hT2, hT3, hT4, hT5, hT6, hT7⟩ := id hS
  have hA := (hT5 a ham).1
  refine lv_iconst (v := 0) hx hb dX7_approve_0 (by decide) ?_
  refine lv_istore (lv' := [(4, .int 0), (0, .ref (ad 0 0)), (1, .ref (ad mk mi)), (2, .ref (ad 5 a)), (3, .int x9)]) hx hb dX7_approve_1 hl (by decide) rfl (fun ls hl => ?_)
  refine lv_iconst (v := 0) hx hb dX7_approve_3 (by decide) ?_
  refine lv_istore (lv' := [(5, .int 0), (4, .int 0), (0, .ref (ad 0 0)), (1, .ref (ad mk mi)), (2, .ref (ad 5 a)), (3, .int x9)]) hx hb dX7_approve_4 hl (by decide) rfl (fun ls hl => ?_)
  refine lv_iconst (v := 0) hx hb dX7_approve_6 (by decide) ?_
  refine lv_istore (lv' := [(6, .int 0), (5, .int 0), (4, .int 0), (0, .ref (ad 0 0)), (1, .ref (ad mk mi)), (2, .ref (ad 5 a)), (3, .int x9)]) hx hb dX7_approve_7 hl (by decide) rfl (fun ls hl => ?_)
  have LOOP_9 : ∀ (d : Nat) (n : Nat), n ≤ S.2 0 0 → bar S kd n = false → S.2 0 0 < n + d → ∀ (H : Heap) (locs : List Loc) (ls : Array Slot), kX E G s H locs ad (cto G S T o ad) → lv_has ls 9 [(6, .int (nI n)), (5, .int (nI (chfN S kd (S.2 1 a) n))), (4, .int (nI (yesN S kd (S.2 1 a) n))), (0, .ref (ad 0 0)), (1, .ref (ad mk mi)), (2, .ref (ad 5 a)), (3, .int x9)] → W p l e (headSpec (Cond.code yX7_approve cX7_approve 9 (some .boolean) :: wsL_law) ({ frames := 6, cells := 0, slots := 0, locals := 180 } : Room)).room s m ([.ref (ad 0 0), .ref (ad mk mi), .ref (ad 5 a), .int x9] : List Value).toArray below meth c H locs 0 0 (MQ below (kQi E G (fun r ad1 ct1 => r = bI (appr S kd (S.2 1 a) (S.2 0 0) x9) ∧ ad = ad1 ∧ ct1 = cto G S T o ad)) ([.ref (ad 0 0), .ref (ad mk mi), .ref (ad 5 a), .int x9] : List Value).toArray s 0 0 (kB E.heap.size)) (F0 m 9 ls []) := by
    intro d
    induction d with
    | zero => intro n h1 hb9 h2; intros; exact absurd h2 (by omega)
    | succ d ih =>
      intro n h1 hb9 h2 H locs ls X hl
      refine lv_iload hx hb dX7_approve_9 (lv_at hl 0 rfl) ?_
      refine lv_aload_n hx hb dX7_approve_11 rfl (lv_at hl 3 rfl) ?_
      refine k_get (index := 25) (j := 1) (ad := ad) (k := 0) (i := 0) Z X ct_0 inlX7 rfl (by decide) (inU_1 _ (List.mem_of_getElem? (i := 22) rfl)) (fun _ h => h) (v := .ref (ad 1 1)) rfl dX7_approve_12 ?_
      refine k_Ri X (k_runV (As := []) (rest := [.int (nI n)]) Z X (c_Jx4a65c_size_8abf5 l E G ad (cto G S T o ad) 1 _ _ (nI (S.2 0 0)) (ct_1 (by decide))) (k_cwV 0 Z.1.2.2.2.2 (inU_6 _ (List.mem_of_getElem? (i := 21) rfl)) (inU_6 _ (List.mem_of_getElem? (i := 22) rfl)) (inU_6 _ (List.mem_of_getElem? (i := 23) rfl)) (inU_1 _ (List.mem_of_getElem? (i := 17) rfl)) (inU_7 _ (List.mem_of_getElem? (i := 0) rfl)) rfl rfl (by decide +kernel) ⟨Nat.le_of_ble_eq_true rfl, Nat.le_of_ble_eq_true rfl⟩) (k_recv Z X (ct_1 (by decide)) rfl) rfl hl.1 rfl (Nat.le_of_ble_eq_true rfl) dX7_approve_15 ⟨(by first | exact Nat.le_of_ble_eq_true rfl | (show _ ≤ (_ : Nat); simp only [headSpec]; omega)), (by first | exact Nat.le_of_ble_eq_true rfl | (show _ ≤ (_ : Nat); simp only [headSpec]; omega))⟩) (fun r_15 ad1 ct1 H locs hp X => ?_)
      obtain ⟨rfl, ha_, hb_⟩ := hp
      rw [← ha_, hb_] at X
      refine lv_icmp_ge (tgt := 121) hx hb dX7_approve_18 (by decide) (fun c_18 => ?_) (fun c_18 => ?_)
      · have c_18 : (S.2 0 0) ≤ n := (nI_leI (a := (S.2 0 0)) (b := n) (by omega) (by omega)).mp c_18
        have hn : n = S.2 0 0 := by omega
        have hy9 := yesN_le S kd (S.2 1 a) n
        have hc9 := chfN_le S kd (S.2 1 a) n
        refine lv_iload_n hx hb dX7_approve_121 rfl (lv_at hl 6 rfl) ?_
        refine lv_sipush (v := 1000) hx hb dX7_approve_122 (by decide) ?_
        refine lv_icmp_gt (tgt := 142) hx hb dX7_approve_125 (by decide) (fun c_125 => ?_) (fun c_125 => ?_)
        · refine lv_iload hx hb dX7_approve_142 (lv_at hl 2 rfl) ?_
          refine lv_iconst (v := 2) hx hb dX7_approve_144 (by decide) ?_
          refine lv_icmp_lt (tgt := 158) hx hb dX7_approve_145 (by decide) (fun c_145 => ?_) (fun c_145 => ?_)
          · have c_145 : (yesN S kd (S.2 1 a) n) < 2 := (nI_ltI (a := (yesN S kd (S.2 1 a) n)) (b := 2) (by omega) (by omega)).mp c_145
            refine lv_iconst (v := 0) hx hb dX7_approve_158 (by decide) ?_
            exact k_iret Z X hr hlocks rfl (Nat.le_of_ble_eq_true rfl) (Nat.le_of_ble_eq_true rfl) dX7_approve_159 ⟨bI_f (by subst hn; simp only [appr, hb9]; first | (simp [c_125, c_145]; done) | (simp [c_125, c_145]; omega)), rfl, rfl⟩
          · have c_145 : ¬ (yesN S kd (S.2 1 a) n) < 2 := fun h => c_145 ((nI_ltI (a := (yesN S kd (S.2 1 a) n)) (b := 2) (by omega) (by omega)).mpr h)
            refine lv_iload hx hb dX7_approve_148 (lv_at hl 1 rfl) ?_
            refine lv_iconst (v := 1) hx hb dX7_approve_150 (by decide) ?_
            refine lv_icmp_lt (tgt := 158) hx hb dX7_approve_151 (by decide) (fun c_151 => ?_) (fun c_151 => ?_)
            · have c_151 : (chfN S kd (S.2 1 a) n) < 1 := (nI_ltI (a := (chfN S kd (S.2 1 a) n)) (b := 1) (by omega) (by omega)).mp c_151
              refine lv_iconst (v := 0) hx hb dX7_approve_158 (by decide) ?_
              exact k_iret Z X hr hlocks rfl (Nat.le_of_ble_eq_true rfl) (Nat.le_of_ble_eq_true rfl) dX7_approve_159 ⟨bI_f (by subst hn; simp only [appr, hb9]; first | (simp [c_125, c_145, c_151]; done) | (simp [c_125, c_145, c_151]; omega)), rfl, rfl⟩
            · have c_151 : ¬ (chfN S kd (S.2 1 a) n) < 1 := fun h => c_151 ((nI_ltI (a := (chfN S kd (S.2 1 a) n)) (b := 1) (by omega) (by omega)).mpr h)
              refine lv_iconst (v := 1) hx hb dX7_approve_154 (by decide) ?_
              refine lv_goto (tgt := 159) hx hb dX7_approve_155 (by decide) ?_
              exact k_iret Z X hr hlocks rfl (Nat.le_of_ble_eq_true rfl) (Nat.le_of_ble_eq_true rfl) dX7_approve_159 ⟨bI_t (by subst hn; simp only [appr, hb9]; first | (simp [c_125, c_145, c_151]; done) | (simp [c_125, c_145, c_151]; omega)), rfl, rfl⟩
        · refine lv_iload hx hb dX7_approve_128 (lv_at hl 2 rfl) ?_
          refine lv_iconst (v := 1) hx hb dX7_approve_130 (by decide) ?_
          refine lv_icmp_lt (tgt := 138) hx hb dX7_approve_131 (by decide) (fun c_131 => ?_) (fun c_131 => ?_)
          · have c_131 : (yesN S kd (S.2 1 a) n) < 1 := (nI_ltI (a := (yesN S kd (S.2 1 a) n)) (b := 1) (by omega) (by omega)).mp c_131
            refine lv_iconst (v := 0) hx hb dX7_approve_138 (by decide) ?_
            refine lv_goto (tgt := 159) hx hb dX7_approve_139 (by decide) ?_
            exact k_iret Z X hr hlocks rfl (Nat.le_of_ble_eq_true rfl) (Nat.le_of_ble_eq_true rfl) dX7_approve_159 ⟨bI_f (by subst hn; simp only [appr, hb9]; first | (simp [c_125, c_131]; done) | (simp [c_125, c_131]; omega)), rfl, rfl⟩
          · have c_131 : ¬ (yesN S kd (S.2 1 a) n) < 1 := fun h => c_131 ((nI_ltI (a := (yesN S kd (S.2 1 a) n)) (b := 1) (by omega) (by omega)).mpr h)
            refine lv_iconst (v := 1) hx hb dX7_approve_134 (by decide) ?_
            refine lv_goto (tgt := 159) hx hb dX7_approve_135 (by decide) ?_
            exact k_iret Z X hr hlocks rfl (Nat.le_of_ble_eq_true rfl) (Nat.le_of_ble_eq_true rfl) dX7_approve_159 ⟨bI_t (by subst hn; simp only [appr, hb9]; first | (simp [c_125, c_131]; done) | (simp [c_125, c_131]; omega)), rfl, rfl⟩
      · have c_18 : ¬ (S.2 0 0) ≤ n := fun h => c_18 ((nI_leI (a := (S.2 0 0)) (b := n) (by omega) (by omega)).mpr h)
        refine lv_aload_n hx hb dX7_approve_21 rfl (lv_at hl 3 rfl) ?_
        refine k_get (index := 25) (j := 1) (ad := ad) (k := 0) (i := 0) Z X ct_0 inlX7 rfl (by decide) (inU_1 _ (List.mem_of_getElem? (i := 22) rfl)) (fun _ h => h) (v := .ref (ad 1 1)) rfl dX7_approve_22 ?_
        refine lv_iload hx hb dX7_approve_25 (lv_at hl 0 rfl) ?_
        refine k_Rq X (k_runV (As := [.int (nI n)]) (rest := []) Z X (c_getS l E G S T o ad 1 n (by decide) hL (by show _ < (_ : Nat); simp only [lcnt]; omega)) (k_cwV 1 Z.1.2.2.2.2 (inU_8 _ (List.mem_of_getElem? (i := 1) rfl)) (inU_8 _ (List.mem_of_getElem? (i := 2) rfl)) (inU_8 _ (List.mem_of_getElem? (i := 3) rfl)) (inU_1 _ (List.mem_of_getElem? (i := 17) rfl)) (inU_8 _ (List.mem_of_getElem? (i := 4) rfl)) rfl rfl (by decide +kernel) ⟨Nat.le_of_ble_eq_true rfl, Nat.le_of_ble_eq_true rfl⟩) (k_recv Z X (ct_1 (by decide)) rfl) rfl hl.1 rfl (Nat.le_of_ble_eq_true rfl) dX7_approve_27 ⟨(by first | exact Nat.le_of_ble_eq_true rfl | (show _ ≤ (_ : Nat); simp only [headSpec]; omega)), (by first | exact Nat.le_of_ble_eq_true rfl | (show _ ≤ (_ : Nat); simp only [headSpec]; omega))⟩) (fun r_27 ad1 ct1 H locs hp X => ?_)
        obtain ⟨rfl, ha_, hb_⟩ := hp
        rw [← ha_, hb_] at X
        refine k_cast (r := (RX6, TX6, 3)) Z X (ct_4 (by first | assumption | omega | decide)) rfl (inU_8 _ (List.mem_of_getElem? (i := 0) rfl)) dX7_approve_30 ?_
        refine lv_astore (lv' := [(7, .ref (ad 4 n)), (6, .int (nI n)), (5, .int (nI (chfN S kd (S.2 1 a) n))), (4, .int (nI (yesN S kd (S.2 1 a) n))), (0, .ref (ad 0 0)), (1, .ref (ad mk mi)), (2, .ref (ad 5 a)), (3, .int x9)]) hx hb dX7_approve_33 hl (by decide) rfl (fun ls hl => ?_)
        refine lv_aload_n hx hb dX7_approve_35 rfl (lv_at hl 5 rfl) ?_
        refine lv_iload hx hb dX7_approve_36 (lv_at hl 1 rfl) ?_
        refine k_Ri X (k_runV (As := [.int (nI n)]) (rest := []) Z X (c_X2_kindOf l E G ad (cto G S T o ad) mk mi ma mj n kd hm ha9 (by omega)) (k_cwV 1 Z.1.2.2.2.2 (inU_9 _ (List.mem_of_getElem? (i := 15) rfl)) (inU_9 _ (List.mem_of_getElem? (i := 16) rfl)) (inU_9 _ (List.mem_of_getElem? (i := 17) rfl)) (inU_2 _ (List.mem_of_getElem? (i := 8) rfl)) (inU_9 _ (List.mem_of_getElem? (i := 18) rfl)) rfl rfl (by decide +kernel) ⟨Nat.le_of_ble_eq_true rfl, Nat.le_of_ble_eq_true rfl⟩) (k_recv Z X hm rfl) rfl hl.1 rfl (Nat.le_of_ble_eq_true rfl) dX7_approve_38 ⟨(by first | exact Nat.le_of_ble_eq_true rfl | (show _ ≤ (_ : Nat); simp only [headSpec]; omega)), (by first | exact Nat.le_of_ble_eq_true rfl | (show _ ≤ (_ : Nat); simp only [headSpec]; omega))⟩) (fun r_38 ad1 ct1 H locs hp X => ?_)
        obtain ⟨rfl, ha_, hb_⟩ := hp
        rw [← ha_, hb_] at X
        refine lv_istore (lv' := [(8, .int (kd n)), (7, .ref (ad 4 n)), (6, .int (nI n)), (5, .int (nI (chfN S kd (S.2 1 a) n))), (4, .int (nI (yesN S kd (S.2 1 a) n))), (0, .ref (ad 0 0)), (1, .ref (ad mk mi)), (2, .ref (ad 5 a)), (3, .int x9)]) hx hb dX7_approve_41 hl (by decide) rfl (fun ls hl => ?_)
        refine lv_iload hx hb dX7_approve_43 (lv_at hl 0 rfl) ?_
        refine lv_iconst (v := (-1)) hx hb dX7_approve_45 (by decide) ?_
        refine lv_icmp_eq (tgt := 115) hx hb dX7_approve_46 (by decide) (fun c_46 => ?_) (fun c_46 => ?_)
        · have hcn : cnts S kd n = false := cnts_n c_46
          have hy : isY S kd (S.2 1 a) n = false := isY_f hcn
          refine lv_iinc (v := (nI (n + 1))) (lv' := [(6, .int (nI (n + 1))), (8, .int (kd n)), (7, .ref (ad 4 n)), (5, .int (nI (chfN S kd (S.2 1 a) n))), (4, .int (nI (yesN S kd (S.2 1 a) n))), (0, .ref (ad 0 0)), (1, .ref (ad mk mi)), (2, .ref (ad 5 a)), (3, .int x9)]) hx hb dX7_approve_115 hl (k := 2) rfl (nI_1 _) (by decide) rfl (fun ls hl => ?_)
          refine lv_goto (tgt := 9) hx hb dX7_approve_118 (by decide) ?_
          have e4 : yesN S kd (S.2 1 a) (n + 1) = yesN S kd (S.2 1 a) n := by simp [yesN, hy]
          have e5 : chfN S kd (S.2 1 a) (n + 1) = chfN S kd (S.2 1 a) n := by simp [chfN, hy]
          rw [← e4, ← e5] at hl
          exact ih (n + 1) (by omega) (by simp only [bar, hb9, hcn, Bool.false_or, Bool.false_and]) (by omega) _ _ _ X (lv_sub hl [0, 3, 4, 5, 6, 7, 8] rfl)
        · refine lv_aload hx hb dX7_approve_49 (lv_at hl 1 rfl) ?_
          refine lv_aload_n hx hb dX7_approve_51 rfl (lv_at hl 5 rfl) ?_
          refine k_get (index := 51) (j := 7) (ad := ad) (k := 0) (i := 0) Z X ct_0 inlX7 rfl (by decide) (inU_2 _ (List.mem_of_getElem? (i := 10) rfl)) (fun _ h => h) (v := .int (S.1 0 0)) rfl dX7_approve_52 ?_
          refine k_Ri X (k_runV (As := [.int (S.1 0 0)]) (rest := []) Z X (c_X6_countsAt l E G S T o ad n (by omega)) (k_cwV 1 Z.1.2.2.2.2 (inU_9 _ (List.mem_of_getElem? (i := 19) rfl)) (inU_9 _ (List.mem_of_getElem? (i := 20) rfl)) (inU_9 _ (List.mem_of_getElem? (i := 21) rfl)) (inU_6 _ (List.mem_of_getElem? (i := 14) rfl)) (inU_9 _ (List.mem_of_getElem? (i := 22) rfl)) rfl rfl (by decide +kernel) ⟨Nat.le_of_ble_eq_true rfl, Nat.le_of_ble_eq_true rfl⟩) (k_recv Z X (ct_4 (by first | assumption | omega | decide)) rfl) rfl hl.1 rfl (Nat.le_of_ble_eq_true rfl) dX7_approve_55 ⟨(by first | exact Nat.le_of_ble_eq_true rfl | (show _ ≤ (_ : Nat); simp only [headSpec]; omega)), (by first | exact Nat.le_of_ble_eq_true rfl | (show _ ≤ (_ : Nat); simp only [headSpec]; omega))⟩) (fun r_55 ad1 ct1 H locs hp X => ?_)
          obtain ⟨rfl, ha_, hb_⟩ := hp
          rw [← ha_, hb_] at X
          refine lv_if_ne (tgt := 64) hx hb dX7_approve_58 (by decide) (fun c_58 => ?_) (fun c_58 => ?_)
          · have hcn : cnts S kd n = true := cnts_t c_46 (bI_1 c_58)
            refine lv_iload hx hb dX7_approve_64 (lv_at hl 0 rfl) ?_
            refine lv_iconst (v := 1) hx hb dX7_approve_66 (by decide) ?_
            refine lv_icmp_ne (tgt := 72) hx hb dX7_approve_67 (by decide) (fun c_67 => ?_) (fun c_67 => ?_)
            · have k0 : kd n = 0 := ((hkd n (by omega)).resolve_left c_46).resolve_right c_67
              refine lv_aload hx hb dX7_approve_72 (lv_at hl 1 rfl) ?_
              refine k_get (index := 78) (j := 1) (ad := ad) (k := 4) (i := n) Z X (ct_4 (by first | assumption | omega | decide)) inlX6 rfl (by decide) (inU_7 _ (List.mem_of_getElem? (i := 17) rfl)) (fun _ h => h) (v := .int (S.1 1 n)) rfl dX7_approve_74 ?_
              refine lv_iconst (v := 2) hx hb dX7_approve_77 (by decide) ?_
              refine lv_icmp_lt (tgt := 115) hx hb dX7_approve_78 (by decide) (fun c_78 => ?_) (fun c_78 => ?_)
              · have hy : isY S kd (S.2 1 a) n = false := by simp [isY, c_78]
                refine lv_iinc (v := (nI (n + 1))) (lv' := [(6, .int (nI (n + 1))), (8, .int (kd n)), (7, .ref (ad 4 n)), (5, .int (nI (chfN S kd (S.2 1 a) n))), (4, .int (nI (yesN S kd (S.2 1 a) n))), (0, .ref (ad 0 0)), (1, .ref (ad mk mi)), (2, .ref (ad 5 a)), (3, .int x9)]) hx hb dX7_approve_115 hl (k := 2) rfl (nI_1 _) (by decide) rfl (fun ls hl => ?_)
                refine lv_goto (tgt := 9) hx hb dX7_approve_118 (by decide) ?_
                have e4 : yesN S kd (S.2 1 a) (n + 1) = yesN S kd (S.2 1 a) n := by simp [yesN, hy]
                have e5 : chfN S kd (S.2 1 a) (n + 1) = chfN S kd (S.2 1 a) n := by simp [chfN, hy]
                rw [← e4, ← e5] at hl
                exact ih (n + 1) (by omega) (by simp only [bar, hb9, hcn, Bool.false_or, Bool.false_and, Bool.true_and, decide_eq_false c_67]) (by omega) _ _ _ X (lv_sub hl [0, 3, 4, 5, 6, 7, 8] rfl)
              · refine lv_iload hx hb dX7_approve_81 (lv_at hl 2 rfl) ?_
                refine lv_aload_n hx hb dX7_approve_83 rfl (lv_at hl 7 rfl) ?_
                refine k_get (index := 130) (j := 1) (ad := ad) (k := 5) (i := a) Z X (ct_5 ham) inlX3 rfl (by decide) (inU_9 _ (List.mem_of_getElem? (i := 14) rfl)) (fun _ h => h) (v := .ref (ad 4 (S.2 1 a))) rfl dX7_approve_84 ?_
                refine k_get (index := 71) (j := 0) (ad := ad) (k := 4) (i := (S.2 1 a)) Z X (ct_4 hA) inlX6 rfl (by decide) (inU_6 _ (List.mem_of_getElem? (i := 15) rfl)) (fun _ h => h) (v := .int (nI (S.2 1 a))) rfl dX7_approve_87 ?_
                refine lv_icmp_eq (tgt := 115) hx hb dX7_approve_90 (by decide) (fun c_90 => ?_) (fun c_90 => ?_)
                · have c_90 : n = (S.2 1 a) := (nI_eq (a := n) (b := (S.2 1 a)) (by omega) (by omega)).mp c_90
                  have hy : isY S kd (S.2 1 a) n = false := by simp [isY, c_90]
                  refine lv_iinc (v := (nI (n + 1))) (lv' := [(6, .int (nI (n + 1))), (8, .int (kd n)), (7, .ref (ad 4 n)), (5, .int (nI (chfN S kd (S.2 1 a) n))), (4, .int (nI (yesN S kd (S.2 1 a) n))), (0, .ref (ad 0 0)), (1, .ref (ad mk mi)), (2, .ref (ad 5 a)), (3, .int x9)]) hx hb dX7_approve_115 hl (k := 2) rfl (nI_1 _) (by decide) rfl (fun ls hl => ?_)
                  refine lv_goto (tgt := 9) hx hb dX7_approve_118 (by decide) ?_
                  have e4 : yesN S kd (S.2 1 a) (n + 1) = yesN S kd (S.2 1 a) n := by simp [yesN, hy]
                  have e5 : chfN S kd (S.2 1 a) (n + 1) = chfN S kd (S.2 1 a) n := by simp [chfN, hy]
                  rw [← e4, ← e5] at hl
                  exact ih (n + 1) (by omega) (by simp only [bar, hb9, hcn, Bool.false_or, Bool.false_and, Bool.true_and, decide_eq_false c_67]) (by omega) _ _ _ X (lv_sub hl [0, 3, 4, 5, 6, 7, 8] rfl)
                · have c_90 : ¬ n = (S.2 1 a) := fun h => c_90 ((nI_eq (a := n) (b := (S.2 1 a)) (by omega) (by omega)).mpr h)
                  have hy : isY S kd (S.2 1 a) n = true := by simp [isY, hcn, k0, c_78, c_90]
                  refine lv_iinc (v := (nI (yesN S kd (S.2 1 a) (n + 1)))) (lv' := [(4, .int (nI (yesN S kd (S.2 1 a) (n + 1)))), (8, .int (kd n)), (7, .ref (ad 4 n)), (6, .int (nI n)), (5, .int (nI (chfN S kd (S.2 1 a) n))), (0, .ref (ad 0 0)), (1, .ref (ad mk mi)), (2, .ref (ad 5 a)), (3, .int x9)]) hx hb dX7_approve_93 hl (k := 4) rfl (by rw [show yesN S kd (S.2 1 a) (n + 1) = yesN S kd (S.2 1 a) n + 1 from by simp [yesN, hy]]; exact nI_1 _) (by decide) rfl (fun ls hl => ?_)
                  refine lv_iload hx hb dX7_approve_96 (lv_at hl 4 rfl) ?_
                  have M_112 : ∀ (H : Heap) (locs : List Loc), kX E G s H locs ad (cto G S T o ad) → W p l e (headSpec (Cond.code yX7_approve cX7_approve 9 (some .boolean) :: wsL_law) ({ frames := 6, cells := 0, slots := 0, locals := 180 } : Room)).room s m ([.ref (ad 0 0), .ref (ad mk mi), .ref (ad 5 a), .int x9] : List Value).toArray below meth c H locs 0 0 (MQ below (kQi E G (fun r ad1 ct1 => r = bI (appr S kd (S.2 1 a) (S.2 0 0) x9) ∧ ad = ad1 ∧ ct1 = cto G S T o ad)) ([.ref (ad 0 0), .ref (ad mk mi), .ref (ad 5 a), .int x9] : List Value).toArray s 0 0 (kB E.heap.size)) (F0 m 112 ls [.int (bI (decide (S.1 1 n = 3))), .int (nI (chfN S kd (S.2 1 a) n))]) := by
                    intro H locs X
                    refine lv_iadd hx hb dX7_approve_112 ?_
                    refine lv_topi (fun x_112 e_112 => ?_)
                    obtain rfl : x_112 = nI (chfN S kd (S.2 1 a) (n + 1)) := e_112.trans (by simp only [chfN, hy, Bool.true_and]; cases h : decide (S.1 1 n = 3) <;> simp [bI, nI_1])
                    refine lv_istore (lv' := [(5, .int (nI (chfN S kd (S.2 1 a) (n + 1)))), (4, .int (nI (yesN S kd (S.2 1 a) (n + 1)))), (8, .int (kd n)), (7, .ref (ad 4 n)), (6, .int (nI n)), (0, .ref (ad 0 0)), (1, .ref (ad mk mi)), (2, .ref (ad 5 a)), (3, .int x9)]) hx hb dX7_approve_113 hl (by decide) rfl (fun ls hl => ?_)
                    refine lv_iinc (v := (nI (n + 1))) (lv' := [(6, .int (nI (n + 1))), (5, .int (nI (chfN S kd (S.2 1 a) (n + 1)))), (4, .int (nI (yesN S kd (S.2 1 a) (n + 1)))), (8, .int (kd n)), (7, .ref (ad 4 n)), (0, .ref (ad 0 0)), (1, .ref (ad mk mi)), (2, .ref (ad 5 a)), (3, .int x9)]) hx hb dX7_approve_115 hl (k := 4) rfl (nI_1 _) (by decide) rfl (fun ls hl => ?_)
                    refine lv_goto (tgt := 9) hx hb dX7_approve_118 (by decide) ?_
                    exact ih (n + 1) (by omega) (by simp only [bar, hb9, hcn, Bool.false_or, Bool.false_and, Bool.true_and, decide_eq_false c_67]) (by omega) _ _ _ X (lv_sub hl [0, 1, 2, 5, 6, 7, 8] rfl)
                  refine lv_aload hx hb dX7_approve_98 (lv_at hl 2 rfl) ?_
                  refine k_get (index := 78) (j := 1) (ad := ad) (k := 4) (i := n) Z X (ct_4 (by first | assumption | omega | decide)) inlX6 rfl (by decide) (inU_7 _ (List.mem_of_getElem? (i := 17) rfl)) (fun _ h => h) (v := .int (S.1 1 n)) rfl dX7_approve_100 ?_
                  refine lv_iconst (v := 3) hx hb dX7_approve_103 (by decide) ?_
                  refine lv_icmp_ne (tgt := 111) hx hb dX7_approve_104 (by decide) (fun c_104 => ?_) (fun c_104 => ?_)
                  · refine lv_iconst (v := 0) hx hb dX7_approve_111 (by decide) ?_
                    exact W.eq (congrArg (fun z => F0 m 112 ls (.int z :: [.int (nI (chfN S kd (S.2 1 a) n))])) (bI_f (by simp [c_104]))) (M_112 _ _ X)
                  · refine lv_iconst (v := 1) hx hb dX7_approve_107 (by decide) ?_
                    refine lv_goto (tgt := 112) hx hb dX7_approve_108 (by decide) ?_
                    exact W.eq (congrArg (fun z => F0 m 112 ls (.int z :: [.int (nI (chfN S kd (S.2 1 a) n))])) (bI_t (by simp [c_104]))) (M_112 _ _ X)
            · refine lv_iconst (v := 0) hx hb dX7_approve_70 (by decide) ?_
              have hbb : bar S kd (n + 1) = true := by simp only [bar, hcn, Bool.true_and, decide_eq_true c_67, Bool.or_true]
              exact k_iret Z X hr hlocks rfl (Nat.le_of_ble_eq_true rfl) (Nat.le_of_ble_eq_true rfl) dX7_approve_71 ⟨bI_f (by simp only [appr, bar_m hbb (show n + 1 ≤ S.2 0 0 by omega)]; rfl), rfl, rfl⟩
          · have hcn : cnts S kd n = false := cnts_f (bI_0 c_58)
            have hy : isY S kd (S.2 1 a) n = false := isY_f hcn
            refine lv_goto (tgt := 115) hx hb dX7_approve_61 (by decide) ?_
            refine lv_iinc (v := (nI (n + 1))) (lv' := [(6, .int (nI (n + 1))), (8, .int (kd n)), (7, .ref (ad 4 n)), (5, .int (nI (chfN S kd (S.2 1 a) n))), (4, .int (nI (yesN S kd (S.2 1 a) n))), (0, .ref (ad 0 0)), (1, .ref (ad mk mi)), (2, .ref (ad 5 a)), (3, .int x9)]) hx hb dX7_approve_115 hl (k := 2) rfl (nI_1 _) (by decide) rfl (fun ls hl => ?_)
            refine lv_goto (tgt := 9) hx hb dX7_approve_118 (by decide) ?_
            have e4 : yesN S kd (S.2 1 a) (n + 1) = yesN S kd (S.2 1 a) n := by simp [yesN, hy]
            have e5 : chfN S kd (S.2 1 a) (n + 1) = chfN S kd (S.2 1 a) n := by simp [chfN, hy]
            rw [← e4, ← e5] at hl
            exact ih (n + 1) (by omega) (by simp only [bar, hb9, hcn, Bool.false_or, Bool.false_and]) (by omega) _ _ _ X (lv_sub hl [0, 3, 4, 5, 6, 7, 8] rfl)
  exact LOOP_9 (S.2 0 0 + 1) 0 (by omega) rfl (by omega) _ _ _ X (lv_sub hl [0, 1, 2, 3, 4, 5, 6] rfl)
