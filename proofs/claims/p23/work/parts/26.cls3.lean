/-! THE CLASS: its private methods, further -/
theorem stl_kdS (S : kSt) (kd : Nat → Nat → Int32) (n : Nat) : kdS (stl S kd n) = kdS S := by
  funext a u
  simp only [kdS]
  exact (stl_r S kd n).2.1 (100 + a) u (by omega) (by omega)
def due (S : kSt) (k : Nat) : Bool := decide (S.1 7 (S.2 3 k) = S.1 10 k) && appr S (kdS S (S.2 3 k)) (S.2 1 (S.2 3 k)) (S.2 0 0) (S.1 11 k)
theorem dX7_isStillDue_0 : decode cX7_isStillDue 0 = .ok (.aload_n 1, 1) := by decide +kernel
theorem dX7_isStillDue_1 : decode cX7_isStillDue 1 = .ok (.getfield 241, 3) := by decide +kernel
theorem dX7_isStillDue_4 : decode cX7_isStillDue 4 = .ok (.astore_n 2, 1) := by decide +kernel
theorem dX7_isStillDue_5 : decode cX7_isStillDue 5 = .ok (.aload_n 2, 1) := by decide +kernel
theorem dX7_isStillDue_6 : decode cX7_isStillDue 6 = .ok (.getfield 136, 3) := by decide +kernel
theorem dX7_isStillDue_9 : decode cX7_isStillDue 9 = .ok (.aload_n 1, 1) := by decide +kernel
theorem dX7_isStillDue_10 : decode cX7_isStillDue 10 = .ok (.getfield 245, 3) := by decide +kernel
theorem dX7_isStillDue_13 : decode cX7_isStillDue 13 = .ok (.if_icmp .ne 23, 3) := by decide +kernel
theorem dX7_isStillDue_16 : decode cX7_isStillDue 16 = .ok (.aload_n 0, 1) := by decide +kernel
theorem dX7_isStillDue_17 : decode cX7_isStillDue 17 = .ok (.aload_n 2, 1) := by decide +kernel
theorem dX7_isStillDue_18 : decode cX7_isStillDue 18 = .ok (.getfield 139, 3) := by decide +kernel
theorem dX7_isStillDue_21 : decode cX7_isStillDue 21 = .ok (.aload_n 2, 1) := by decide +kernel
theorem dX7_isStillDue_22 : decode cX7_isStillDue 22 = .ok (.aload_n 1, 1) := by decide +kernel
theorem dX7_isStillDue_23 : decode cX7_isStillDue 23 = .ok (.getfield 246, 3) := by decide +kernel
theorem dX7_isStillDue_26 : decode cX7_isStillDue 26 = .ok (.invokevirtual 167, 3) := by decide +kernel
theorem dX7_isStillDue_29 : decode cX7_isStillDue 29 = .ok (.ifCond .eq 7, 3) := by decide +kernel
theorem dX7_isStillDue_32 : decode cX7_isStillDue 32 = .ok (.iconst 1, 1) := by decide +kernel
theorem dX7_isStillDue_33 : decode cX7_isStillDue 33 = .ok (.goto 4, 3) := by decide +kernel
theorem dX7_isStillDue_36 : decode cX7_isStillDue 36 = .ok (.iconst 0, 1) := by decide +kernel
theorem dX7_isStillDue_37 : decode cX7_isStillDue 37 = .ok (.ireturn, 1) := by decide +kernel
set_option maxHeartbeats 4000000 in
set_option maxRecDepth 100000 in
theorem c_X7_isStillDue (l : Launch) (E : State) (G : kG) (S T : kSt) (o : Int64) (ad : kAd) (k : Nat) (hk : k < S.2 0 2) (hS : okN S) (hL : okL S) (hK9 : okK S) : Met l yX7_isStillDue (.code yX7_isStillDue cX7_isStillDue 3 (some .boolean) :: wsL_law) ({ frames := 8, cells := 0, slots := 0, locals := 230 } : Room) (va_Pc [.ref (ad 0 0), .ref (ad 8 k)] (kPre E G ad (cto G S T o ad))) (kQi E G (fun r ad1 ct1 => r = bI (due S k) ∧ ad = ad1 ∧ ct1 = cto G S T o ad)) 0 0 (kB E.heap.size) := by
  refine Met.ofW (cc := cX7_isStillDue) (maxL := 3) (ret := (some .boolean)) (by decide) rfl ?_
  intro p e s m args below meth c s₁ B hml hv
  obtain ⟨rfl, hM, hK, hW0⟩ := hv
  have hlocks := B.notSynchronized
  have hr := B.returns
  have Z : kZ p m c cX7_isStillDue 3 s _ wsL_law RX7 E G := ⟨⟨B.exec, B.bytes, hml, findClass_of_methodNamed B.named, fun w h => atoms_spec (ws := .code yX7_isStillDue cX7_isStillDue 3 (some .boolean) :: wsL_law) B.pre w (List.mem_cons_of_mem _ h)⟩, hM, hK⟩
  have hx := Z.1.1
  have hb := Z.1.2.1
  have X := kX.of hW0
  have hl := lv_entry ([.ref (ad 0 0), .ref (ad 8 k)]) (n := 3) (Nat.le_of_ble_eq_true rfl)
  rw [lg_entry_eq]
  generalize (lg_sl ([.ref (ad 0 0), .ref (ad 8 k)]) ++ List.replicate (3 - (lg_sl ([.ref (ad 0 0), .ref (ad 8 k)])).length) Slot.unset).toArray = ls at hl ⊢
  have hl : lv_has ls 3 [(0, .ref (ad 0 0)), (1, .ref (ad 8 k))] := hl
  obtain ⟨hT1, hT2, hT3, hT4, hT5, hT6, hT7⟩ := id hS
  have h6 := hT6 k hk
  refine lv_aload_n hx hb dX7_isStillDue_0 rfl (lv_at hl 1 rfl) ?_
  refine k_get (index := 241) (j := 1) (ad := ad) (k := 8) (i := k) Z X (ct_8 (by first | assumption | omega | decide)) inlX4 rfl (by decide) (inU_8 _ (List.mem_of_getElem? (i := 23) rfl)) (fun _ h => h) (v := .ref (ad 5 (S.2 3 k))) rfl dX7_isStillDue_1 ?_
  refine lv_astore_n (lv' := [(2, .ref (ad 5 (S.2 3 k))), (0, .ref (ad 0 0)), (1, .ref (ad 8 k))]) hx hb dX7_isStillDue_4 rfl hl (by decide) rfl (fun ls hl => ?_)
  refine lv_aload_n hx hb dX7_isStillDue_5 rfl (lv_at hl 0 rfl) ?_
  refine k_get (index := 136) (j := 6) (ad := ad) (k := 5) (i := (S.2 3 k)) Z X (ct_5 (by first | assumption | omega | decide)) inlX3 rfl (by decide) (inU_9 _ (List.mem_of_getElem? (i := 7) rfl)) (fun _ h => h) (v := .int (S.1 7 (S.2 3 k))) rfl dX7_isStillDue_6 ?_
  refine lv_aload_n hx hb dX7_isStillDue_9 rfl (lv_at hl 2 rfl) ?_
  refine k_get (index := 245) (j := 2) (ad := ad) (k := 8) (i := k) Z X (ct_8 (by first | assumption | omega | decide)) inlX4 rfl (by decide) (inU_9 _ (List.mem_of_getElem? (i := 8) rfl)) (fun _ h => h) (v := .int (S.1 10 k)) rfl dX7_isStillDue_10 ?_
  refine lv_icmp_ne (tgt := 36) hx hb dX7_isStillDue_13 (by decide) (fun c_13 => ?_) (fun c_13 => ?_)
  · refine lv_iconst (v := 0) hx hb dX7_isStillDue_36 (by decide) ?_
    exact k_iret Z X hr hlocks rfl (Nat.le_of_ble_eq_true rfl) (Nat.le_of_ble_eq_true rfl) dX7_isStillDue_37 ⟨bI_f (by simp [due, c_13]), rfl, rfl⟩
  · refine lv_aload_n hx hb dX7_isStillDue_16 rfl (lv_at hl 1 rfl) ?_
    refine lv_aload_n hx hb dX7_isStillDue_17 rfl (lv_at hl 0 rfl) ?_
    refine k_get (index := 139) (j := 5) (ad := ad) (k := 5) (i := (S.2 3 k)) Z X (ct_5 (by first | assumption | omega | decide)) inlX3 rfl (by decide) (inU_9 _ (List.mem_of_getElem? (i := 9) rfl)) (fun _ h => h) (v := .ref (ad 6 (S.2 3 k))) rfl dX7_isStillDue_18 ?_
    refine lv_aload_n hx hb dX7_isStillDue_21 rfl (lv_at hl 0 rfl) ?_
    refine lv_aload_n hx hb dX7_isStillDue_22 rfl (lv_at hl 2 rfl) ?_
    refine k_get (index := 246) (j := 3) (ad := ad) (k := 8) (i := k) Z X (ct_8 (by first | assumption | omega | decide)) inlX4 rfl (by decide) (inU_9 _ (List.mem_of_getElem? (i := 2) rfl)) (fun _ h => h) (v := .int (S.1 11 k)) rfl dX7_isStillDue_23 ?_
    refine k_Ri X (k_runV (As := [.ref (ad 6 (S.2 3 k)), .ref (ad 5 (S.2 3 k)), .int (S.1 11 k)]) (rest := []) Z X (c_X7_approve l E G S T o ad 6 (S.2 3 k) 7 (S.2 3 k) (kdS S (S.2 3 k)) (ct_6 h6) (ct_7 h6) hS hL (S.2 3 k) (S.1 11 k) h6 (fun u hu => hK9 _ u h6 hu)) (k_cwV 3 Z.1.2.2.2.2 (inU_9 _ (List.mem_of_getElem? (i := 10) rfl)) (inU_9 _ (List.mem_of_getElem? (i := 11) rfl)) (inU_9 _ (List.mem_of_getElem? (i := 12) rfl)) (inU_1 _ (List.mem_of_getElem? (i := 2) rfl)) (inU_9 _ (List.mem_of_getElem? (i := 13) rfl)) rfl rfl (by decide +kernel) ⟨Nat.le_of_ble_eq_true rfl, Nat.le_of_ble_eq_true rfl⟩) (k_recv Z X ct_0 rfl) rfl hl.1 rfl (Nat.le_of_ble_eq_true rfl) dX7_isStillDue_26 ⟨(by first | exact Nat.le_of_ble_eq_true rfl | (show _ ≤ (_ : Nat); simp only [headSpec]; omega)), (by first | exact Nat.le_of_ble_eq_true rfl | (show _ ≤ (_ : Nat); simp only [headSpec]; omega))⟩) (fun r_26 ad1 ct1 H locs hp X => ?_)
    obtain ⟨rfl, ha_, hb_⟩ := hp
    rw [← ha_, hb_] at X
    refine lv_if_eq (tgt := 36) hx hb dX7_isStillDue_29 (by decide) (fun c_29 => ?_) (fun c_29 => ?_)
    · have c_29 : appr S (kdS S (S.2 3 k)) (S.2 1 (S.2 3 k)) (S.2 0 0) (S.1 11 k) = false := bI_0 c_29
      refine lv_iconst (v := 0) hx hb dX7_isStillDue_36 (by decide) ?_
      exact k_iret Z X hr hlocks rfl (Nat.le_of_ble_eq_true rfl) (Nat.le_of_ble_eq_true rfl) dX7_isStillDue_37 ⟨bI_f (by simp [due, c_13, c_29]), rfl, rfl⟩
    · have c_29 : appr S (kdS S (S.2 3 k)) (S.2 1 (S.2 3 k)) (S.2 0 0) (S.1 11 k) = true := bI_1 c_29
      refine lv_iconst (v := 1) hx hb dX7_isStillDue_32 (by decide) ?_
      refine lv_goto (tgt := 37) hx hb dX7_isStillDue_33 (by decide) ?_
      exact k_iret Z X hr hlocks rfl (Nat.le_of_ble_eq_true rfl) (Nat.le_of_ble_eq_true rfl) dX7_isStillDue_37 ⟨bI_t (by simp [due, c_13, c_29]), rfl, rfl⟩
theorem dX7_takeSpendsBack_0 : decode cX7_takeSpendsBack 0 = .ok (.iconst 0, 1) := by decide +kernel
theorem dX7_takeSpendsBack_1 : decode cX7_takeSpendsBack 1 = .ok (.istore_n 1, 1) := by decide +kernel
theorem dX7_takeSpendsBack_2 : decode cX7_takeSpendsBack 2 = .ok (.iload_n 1, 1) := by decide +kernel
theorem dX7_takeSpendsBack_3 : decode cX7_takeSpendsBack 3 = .ok (.aload_n 0, 1) := by decide +kernel
theorem dX7_takeSpendsBack_4 : decode cX7_takeSpendsBack 4 = .ok (.getfield 31, 3) := by decide +kernel
theorem dX7_takeSpendsBack_7 : decode cX7_takeSpendsBack 7 = .ok (.invokevirtual 59, 3) := by decide +kernel
theorem dX7_takeSpendsBack_10 : decode cX7_takeSpendsBack 10 = .ok (.if_icmp .ge 60, 3) := by decide +kernel
theorem dX7_takeSpendsBack_13 : decode cX7_takeSpendsBack 13 = .ok (.aload_n 0, 1) := by decide +kernel
theorem dX7_takeSpendsBack_14 : decode cX7_takeSpendsBack 14 = .ok (.getfield 31, 3) := by decide +kernel
theorem dX7_takeSpendsBack_17 : decode cX7_takeSpendsBack 17 = .ok (.iload_n 1, 1) := by decide +kernel
theorem dX7_takeSpendsBack_18 : decode cX7_takeSpendsBack 18 = .ok (.invokevirtual 210, 3) := by decide +kernel
theorem dX7_takeSpendsBack_21 : decode cX7_takeSpendsBack 21 = .ok (.checkcast 175, 3) := by decide +kernel
theorem dX7_takeSpendsBack_24 : decode cX7_takeSpendsBack 24 = .ok (.astore_n 2, 1) := by decide +kernel
theorem dX7_takeSpendsBack_25 : decode cX7_takeSpendsBack 25 = .ok (.aload_n 2, 1) := by decide +kernel
theorem dX7_takeSpendsBack_26 : decode cX7_takeSpendsBack 26 = .ok (.getfield 240, 3) := by decide +kernel
theorem dX7_takeSpendsBack_29 : decode cX7_takeSpendsBack 29 = .ok (.ifCond .ne 35, 3) := by decide +kernel
theorem dX7_takeSpendsBack_32 : decode cX7_takeSpendsBack 32 = .ok (.aload_n 0, 1) := by decide +kernel
theorem dX7_takeSpendsBack_33 : decode cX7_takeSpendsBack 33 = .ok (.aload_n 2, 1) := by decide +kernel
theorem dX7_takeSpendsBack_34 : decode cX7_takeSpendsBack 34 = .ok (.invokevirtual 304, 3) := by decide +kernel
theorem dX7_takeSpendsBack_37 : decode cX7_takeSpendsBack 37 = .ok (.ifCond .ne 27, 3) := by decide +kernel
theorem dX7_takeSpendsBack_40 : decode cX7_takeSpendsBack 40 = .ok (.aload_n 2, 1) := by decide +kernel
theorem dX7_takeSpendsBack_41 : decode cX7_takeSpendsBack 41 = .ok (.iconst 1, 1) := by decide +kernel
theorem dX7_takeSpendsBack_42 : decode cX7_takeSpendsBack 42 = .ok (.putfield 240, 3) := by decide +kernel
theorem dX7_takeSpendsBack_45 : decode cX7_takeSpendsBack 45 = .ok (.aload_n 2, 1) := by decide +kernel
theorem dX7_takeSpendsBack_46 : decode cX7_takeSpendsBack 46 = .ok (.getfield 241, 3) := by decide +kernel
theorem dX7_takeSpendsBack_49 : decode cX7_takeSpendsBack 49 = .ok (.getfield 111, 3) := by decide +kernel
theorem dX7_takeSpendsBack_52 : decode cX7_takeSpendsBack 52 = .ok (.dup, 1) := by decide +kernel
theorem dX7_takeSpendsBack_53 : decode cX7_takeSpendsBack 53 = .ok (.getfield 92, 3) := by decide +kernel
theorem dX7_takeSpendsBack_56 : decode cX7_takeSpendsBack 56 = .ok (.aload_n 2, 1) := by decide +kernel
theorem dX7_takeSpendsBack_57 : decode cX7_takeSpendsBack 57 = .ok (.getfield 246, 3) := by decide +kernel
theorem dX7_takeSpendsBack_60 : decode cX7_takeSpendsBack 60 = .ok (.iadd, 1) := by decide +kernel
theorem dX7_takeSpendsBack_61 : decode cX7_takeSpendsBack 61 = .ok (.putfield 92, 3) := by decide +kernel
theorem dX7_takeSpendsBack_64 : decode cX7_takeSpendsBack 64 = .ok (.iinc 1 1, 3) := by decide +kernel
theorem dX7_takeSpendsBack_67 : decode cX7_takeSpendsBack 67 = .ok (.goto (-65), 3) := by decide +kernel
theorem dX7_takeSpendsBack_70 : decode cX7_takeSpendsBack 70 = .ok (.return_, 1) := by decide +kernel
set_option maxHeartbeats 4000000 in
set_option maxRecDepth 100000 in
theorem c_X7_takeSpendsBack (l : Launch) (E : State) (G : kG) (S T : kSt) (o : Int64) (ad : kAd) (hS : okN S) (hL : okL S) (hK9 : okK S) : Met l yX7_takeSpendsBack (.code yX7_takeSpendsBack cX7_takeSpendsBack 3 none :: wsL_law) ({ frames := 10, cells := 0, slots := 0, locals := 300 } : Room) (va_Pc [.ref (ad 0 0)] (kPre E G ad (cto G S T o ad))) (kQv E G (fun ad1 ct1 => ad = ad1 ∧ ct1 = cto G (stl S (kdS S) (S.2 0 2)) T o ad)) 0 0 (kB E.heap.size) := by
  refine Met.ofW (cc := cX7_takeSpendsBack) (maxL := 3) (ret := none) (by decide) rfl ?_
  intro p e s m args below meth c s₁ B hml hv
  obtain ⟨rfl, hM, hK, hW0⟩ := hv
  have hlocks := B.notSynchronized
  have hr := B.returns
  have Z : kZ p m c cX7_takeSpendsBack 3 s _ wsL_law RX7 E G := ⟨⟨B.exec, B.bytes, hml, findClass_of_methodNamed B.named, fun w h => atoms_spec (ws := .code yX7_takeSpendsBack cX7_takeSpendsBack 3 none :: wsL_law) B.pre w (List.mem_cons_of_mem _ h)⟩, hM, hK⟩
  have hx := Z.1.1
  have hb := Z.1.2.1
  have X := kX.of hW0
  have hl := lv_entry ([.ref (ad 0 0)]) (n := 3) (Nat.le_of_ble_eq_true rfl)
  rw [lg_entry_eq]
  generalize (lg_sl ([.ref (ad 0 0)]) ++ List.replicate (3 - (lg_sl ([.ref (ad 0 0)])).length) Slot.unset).toArray = ls at hl ⊢
  have hl : lv_has ls 3 [(0, .ref (ad 0 0))] := hl
  obtain ⟨hT1, hT2, hT3, hT4, hT5, hT6, hT7⟩ := id hS
  refine lv_iconst (v := 0) hx hb dX7_takeSpendsBack_0 (by decide) ?_
  refine lv_istore_n (lv' := [(1, .int 0), (0, .ref (ad 0 0))]) hx hb dX7_takeSpendsBack_1 rfl hl (by decide) rfl (fun ls hl => ?_)
  have LOOP_2 : ∀ (d : Nat) (n : Nat), n ≤ S.2 0 2 → S.2 0 2 < n + d → ∀ (H : Heap) (locs : List Loc) (ls : Array Slot), kX E G s H locs ad (cto G (stl S (kdS S) n) T o ad) → lv_has ls 3 [(1, .int (nI n)), (0, .ref (ad 0 0))] → W p l e (headSpec (Cond.code yX7_takeSpendsBack cX7_takeSpendsBack 3 none :: wsL_law) ({ frames := 10, cells := 0, slots := 0, locals := 300 } : Room)).room s m ([.ref (ad 0 0)] : List Value).toArray below meth c H locs 0 0 (MQ below (kQv E G (fun ad1 ct1 => ad = ad1 ∧ ct1 = cto G (stl S (kdS S) (S.2 0 2)) T o ad)) ([.ref (ad 0 0)] : List Value).toArray s 0 0 (kB E.heap.size)) (F0 m 2 ls []) := by
    intro d
    induction d with
    | zero => intro n h1 h2; intros; exact absurd h2 (by omega)
    | succ d ih =>
      intro n h1 h2 H locs ls X hl
      obtain ⟨s2, s1, s12⟩ := stl_r S (kdS S) n
      have hkn := stl_kdS S (kdS S) n
      generalize hTn : stl S (kdS S) n = Sn at X s2 s1 s12 hkn
      have hSn : okN Sn := okN_c s2 hS
      have hLn : okL Sn := okL_c s2 hL
      have hKn : okK Sn := by intro a u h1 h2; rw [hkn]; rw [s2] at h1; exact hK9 a u h1 h2
      obtain ⟨n1, n2, n3, n4, n5, n6, n7⟩ := id hSn
      refine lv_iload_n hx hb dX7_takeSpendsBack_2 rfl (lv_at hl 0 rfl) ?_
      refine lv_aload_n hx hb dX7_takeSpendsBack_3 rfl (lv_at hl 1 rfl) ?_
      refine k_get (index := 31) (j := 3) (ad := ad) (k := 0) (i := 0) Z X ct_0 inlX7 rfl (by decide) (inU_2 _ (List.mem_of_getElem? (i := 0) rfl)) (fun _ h => h) (v := .ref (ad 1 3)) rfl dX7_takeSpendsBack_4 ?_
      refine k_Ri X (k_runV (As := []) (rest := [.int (nI n)]) Z X (c_Jx4a65c_size_8abf5 l E G ad (cto G Sn T o ad) 3 _ _ (nI (Sn.2 0 2)) (ct_1 (by decide))) (k_cwV 0 Z.1.2.2.2.2 (inU_6 _ (List.mem_of_getElem? (i := 21) rfl)) (inU_6 _ (List.mem_of_getElem? (i := 22) rfl)) (inU_6 _ (List.mem_of_getElem? (i := 23) rfl)) (inU_1 _ (List.mem_of_getElem? (i := 17) rfl)) (inU_7 _ (List.mem_of_getElem? (i := 0) rfl)) rfl rfl (by decide +kernel) ⟨Nat.le_of_ble_eq_true rfl, Nat.le_of_ble_eq_true rfl⟩) (k_recv Z X (ct_1 (by decide)) rfl) rfl hl.1 rfl (Nat.le_of_ble_eq_true rfl) dX7_takeSpendsBack_7 ⟨(by first | exact Nat.le_of_ble_eq_true rfl | (show _ ≤ (_ : Nat); simp only [headSpec]; omega)), (by first | exact Nat.le_of_ble_eq_true rfl | (show _ ≤ (_ : Nat); simp only [headSpec]; omega))⟩) (fun r_7 ad1 ct1 H locs hp X => ?_)
      obtain ⟨rfl, ha_, hb_⟩ := hp
      rw [← ha_, hb_] at X
      refine lv_icmp_ge (tgt := 70) hx hb dX7_takeSpendsBack_10 (by decide) (fun c_10 => ?_) (fun c_10 => ?_)
      · have c_10 : (Sn.2 0 2) ≤ n := (nI_leI (a := (Sn.2 0 2)) (b := n) (by omega) (by omega)).mp c_10
        rw [s2] at c_10
        have hn : n = S.2 0 2 := by omega
        subst hn
        exact k_vret Z X hr hlocks (Nat.le_of_ble_eq_true rfl) (Nat.le_of_ble_eq_true rfl) dX7_takeSpendsBack_70 ⟨rfl, by rw [hTn]⟩
      · have c_10 : ¬ (Sn.2 0 2) ≤ n := fun h => c_10 ((nI_leI (a := (Sn.2 0 2)) (b := n) (by omega) (by omega)).mpr h)
        have h6 := n6 n (by omega)
        have h52 := (n5 _ h6).2
        have hn2 : n < Sn.2 0 2 := by omega
        rw [s2] at c_10
        refine lv_aload_n hx hb dX7_takeSpendsBack_13 rfl (lv_at hl 1 rfl) ?_
        refine k_get (index := 31) (j := 3) (ad := ad) (k := 0) (i := 0) Z X ct_0 inlX7 rfl (by decide) (inU_2 _ (List.mem_of_getElem? (i := 0) rfl)) (fun _ h => h) (v := .ref (ad 1 3)) rfl dX7_takeSpendsBack_14 ?_
        refine lv_iload_n hx hb dX7_takeSpendsBack_17 rfl (lv_at hl 0 rfl) ?_
        refine k_Rq X (k_runV (As := [.int (nI n)]) (rest := []) Z X (c_getS l E G Sn T o ad 3 n (by decide) hLn (by show _ < (_ : Nat); simp only [lcnt]; omega)) (k_cwV 1 Z.1.2.2.2.2 (inU_8 _ (List.mem_of_getElem? (i := 1) rfl)) (inU_8 _ (List.mem_of_getElem? (i := 2) rfl)) (inU_8 _ (List.mem_of_getElem? (i := 3) rfl)) (inU_1 _ (List.mem_of_getElem? (i := 17) rfl)) (inU_8 _ (List.mem_of_getElem? (i := 4) rfl)) rfl rfl (by decide +kernel) ⟨Nat.le_of_ble_eq_true rfl, Nat.le_of_ble_eq_true rfl⟩) (k_recv Z X (ct_1 (by decide)) rfl) rfl hl.1 rfl (Nat.le_of_ble_eq_true rfl) dX7_takeSpendsBack_18 ⟨(by first | exact Nat.le_of_ble_eq_true rfl | (show _ ≤ (_ : Nat); simp only [headSpec]; omega)), (by first | exact Nat.le_of_ble_eq_true rfl | (show _ ≤ (_ : Nat); simp only [headSpec]; omega))⟩) (fun r_18 ad1 ct1 H locs hp X => ?_)
        obtain ⟨rfl, ha_, hb_⟩ := hp
        rw [← ha_, hb_] at X
        refine k_cast (r := (RX4, TX4, 5)) Z X (ct_8 (by first | assumption | omega | decide)) rfl (inU_8 _ (List.mem_of_getElem? (i := 21) rfl)) dX7_takeSpendsBack_21 ?_
        refine lv_astore_n (lv' := [(2, .ref (ad 8 n)), (1, .int (nI n)), (0, .ref (ad 0 0))]) hx hb dX7_takeSpendsBack_24 rfl hl (by decide) rfl (fun ls hl => ?_)
        refine lv_aload_n hx hb dX7_takeSpendsBack_25 rfl (lv_at hl 0 rfl) ?_
        refine k_get (index := 240) (j := 4) (ad := ad) (k := 8) (i := n) Z X (ct_8 (by first | assumption | omega | decide)) inlX4 rfl (by decide) (inU_8 _ (List.mem_of_getElem? (i := 22) rfl)) (fun _ h => h) (v := .int (Sn.1 12 n)) rfl dX7_takeSpendsBack_26 ?_
        refine lv_if_ne (tgt := 64) hx hb dX7_takeSpendsBack_29 (by decide) (fun c_29 => ?_) (fun c_29 => ?_)
        · refine lv_iinc (v := (nI (n + 1))) (lv' := [(1, .int (nI (n + 1))), (2, .ref (ad 8 n)), (0, .ref (ad 0 0))]) hx hb dX7_takeSpendsBack_64 hl (k := 1) rfl (nI_1 _) (by decide) rfl (fun ls hl => ?_)
          refine lv_goto (tgt := 2) hx hb dX7_takeSpendsBack_67 (by decide) ?_
          have hs : stl S (kdS S) (n + 1) = Sn := by simp only [stl, hTn, stl1]; exact if_neg (fun h => c_29 h.1)
          exact ih (n + 1) (by omega) (by omega) _ _ _ (hs ▸ X) (lv_sub hl [0, 2] rfl)
        · refine lv_aload_n hx hb dX7_takeSpendsBack_32 rfl (lv_at hl 2 rfl) ?_
          refine lv_aload_n hx hb dX7_takeSpendsBack_33 rfl (lv_at hl 0 rfl) ?_
          refine k_Ri X (k_runV (As := [.ref (ad 8 n)]) (rest := []) Z X (c_X7_isStillDue l E G Sn T o ad n hn2 hSn hLn hKn) (k_cwV 1 Z.1.2.2.2.2 (inU_9 _ (List.mem_of_getElem? (i := 3) rfl)) (inU_9 _ (List.mem_of_getElem? (i := 4) rfl)) (inU_9 _ (List.mem_of_getElem? (i := 5) rfl)) (inU_1 _ (List.mem_of_getElem? (i := 2) rfl)) (inU_9 _ (List.mem_of_getElem? (i := 6) rfl)) rfl rfl (by decide +kernel) ⟨Nat.le_of_ble_eq_true rfl, Nat.le_of_ble_eq_true rfl⟩) (k_recv Z X ct_0 rfl) rfl hl.1 rfl (Nat.le_of_ble_eq_true rfl) dX7_takeSpendsBack_34 ⟨(by first | exact Nat.le_of_ble_eq_true rfl | (show _ ≤ (_ : Nat); simp only [headSpec]; omega)), (by first | exact Nat.le_of_ble_eq_true rfl | (show _ ≤ (_ : Nat); simp only [headSpec]; omega))⟩) (fun r_34 ad1 ct1 H locs hp X => ?_)
          obtain ⟨rfl, ha_, hb_⟩ := hp
          rw [← ha_, hb_] at X
          refine lv_if_ne (tgt := 64) hx hb dX7_takeSpendsBack_37 (by decide) (fun c_37 => ?_) (fun c_37 => ?_)
          · have c_37 : due Sn n = true := bI_1 c_37
            refine lv_iinc (v := (nI (n + 1))) (lv' := [(1, .int (nI (n + 1))), (2, .ref (ad 8 n)), (0, .ref (ad 0 0))]) hx hb dX7_takeSpendsBack_64 hl (k := 1) rfl (nI_1 _) (by decide) rfl (fun ls hl => ?_)
            refine lv_goto (tgt := 2) hx hb dX7_takeSpendsBack_67 (by decide) ?_
            have hs : stl S (kdS S) (n + 1) = Sn := by simp only [stl, hTn, stl1]; exact if_neg (fun h => h.2 (by simp only [due, hkn, Bool.and_eq_true, decide_eq_true_eq] at c_37; exact c_37))
            exact ih (n + 1) (by omega) (by omega) _ _ _ (hs ▸ X) (lv_sub hl [0, 2] rfl)
          · have c_37 : due Sn n = false := bI_0 c_37
            refine lv_aload_n hx hb dX7_takeSpendsBack_40 rfl (lv_at hl 0 rfl) ?_
            refine lv_iconst (v := 1) hx hb dX7_takeSpendsBack_41 (by decide) ?_
            refine k_put (index := 240) (j := 4) (k := 8) (i := n) Z X (ct_8 (by first | assumption | omega | decide)) inlX4 tyX4_ok nmX4 rfl (by decide) (inU_8 _ (List.mem_of_getElem? (i := 22) rfl)) (fun _ h => h) rfl (Nat.le_of_ble_eq_true rfl) rfl rfl dX7_takeSpendsBack_42 (fun H locs X => ?_)
            have X : kX E G s H locs ad (cto G (sI Sn 12 n 1) T o ad) := X.eq (cs_spst _ _ hn2)
            refine lv_aload_n hx hb dX7_takeSpendsBack_45 rfl (lv_at hl 0 rfl) ?_
            refine k_get (index := 241) (j := 1) (ad := ad) (k := 8) (i := n) Z X (ct_8 hn2) inlX4 rfl (by decide) (inU_8 _ (List.mem_of_getElem? (i := 23) rfl)) (fun _ h => h) (v := .ref (ad 5 (Sn.2 3 n))) rfl dX7_takeSpendsBack_46 ?_
            refine k_get (index := 111) (j := 2) (ad := ad) (k := 5) (i := (Sn.2 3 n)) Z X (ct_5 h6) inlX3 rfl (by decide) (inU_9 _ (List.mem_of_getElem? (i := 0) rfl)) (fun _ h => h) (v := .ref (ad 3 (Sn.2 2 (Sn.2 3 n)))) rfl dX7_takeSpendsBack_49 ?_
            refine lv_dup hx hb dX7_takeSpendsBack_52 rfl ?_
            refine k_get (index := 92) (j := 1) (ad := ad) (k := 3) (i := (Sn.2 2 (Sn.2 3 n))) Z X (ct_3 h52) inlX0 rfl (by decide) (inU_9 _ (List.mem_of_getElem? (i := 1) rfl)) (fun _ h => h) (v := .int (Sn.1 3 (Sn.2 2 (Sn.2 3 n)))) rfl dX7_takeSpendsBack_53 ?_
            refine lv_aload_n hx hb dX7_takeSpendsBack_56 rfl (lv_at hl 0 rfl) ?_
            refine k_get (index := 246) (j := 3) (ad := ad) (k := 8) (i := n) Z X (ct_8 hn2) inlX4 rfl (by decide) (inU_9 _ (List.mem_of_getElem? (i := 2) rfl)) (fun _ h => h) (v := .int (Sn.1 11 n)) rfl dX7_takeSpendsBack_57 ?_
            refine lv_iadd hx hb dX7_takeSpendsBack_60 ?_
            refine k_put (index := 92) (j := 1) (k := 3) (i := (Sn.2 2 (Sn.2 3 n))) Z X (ct_3 h52) inlX0 tyX0_ok nmX0 rfl (by decide) (inU_9 _ (List.mem_of_getElem? (i := 1) rfl)) (fun _ h => h) rfl (Nat.le_of_ble_eq_true rfl) rfl rfl dX7_takeSpendsBack_61 (fun H locs X => ?_)
            have X : kX E G s H locs ad (cto G (sI (sI Sn 12 n 1) 3 (Sn.2 2 (Sn.2 3 n)) (Sn.1 3 (Sn.2 2 (Sn.2 3 n)) + Sn.1 11 n)) T o ad) := X.eq (cs_cents _ _ h52)
            refine lv_iinc (v := (nI (n + 1))) (lv' := [(1, .int (nI (n + 1))), (2, .ref (ad 8 n)), (0, .ref (ad 0 0))]) hx hb dX7_takeSpendsBack_64 hl (k := 1) rfl (nI_1 _) (by decide) rfl (fun ls hl => ?_)
            refine lv_goto (tgt := 2) hx hb dX7_takeSpendsBack_67 (by decide) ?_
            have hs : stl S (kdS S) (n + 1) = (sI (sI Sn 12 n 1) 3 (Sn.2 2 (Sn.2 3 n)) (Sn.1 3 (Sn.2 2 (Sn.2 3 n)) + Sn.1 11 n)) := by
              simp only [stl, hTn, stl1]
              refine if_pos ⟨c_29, fun h => ?_⟩
              have hd : due Sn n = true := by simp only [due, hkn, Bool.and_eq_true, decide_eq_true_eq]; exact h
              rw [hd] at c_37
              cases c_37
            exact ih (n + 1) (by omega) (by omega) _ _ _ (hs ▸ X) (lv_sub hl [0, 2] rfl)
  exact LOOP_2 (S.2 0 2 + 1) 0 (by omega) (by omega) _ _ _ X (lv_sub hl [0, 1] rfl)
theorem dX7_dropTasksOf_0 : decode cX7_dropTasksOf 0 = .ok (.iconst 0, 1) := by decide +kernel
theorem dX7_dropTasksOf_1 : decode cX7_dropTasksOf 1 = .ok (.istore_n 2, 1) := by decide +kernel
theorem dX7_dropTasksOf_2 : decode cX7_dropTasksOf 2 = .ok (.iload_n 2, 1) := by decide +kernel
theorem dX7_dropTasksOf_3 : decode cX7_dropTasksOf 3 = .ok (.aload_n 0, 1) := by decide +kernel
theorem dX7_dropTasksOf_4 : decode cX7_dropTasksOf 4 = .ok (.getfield 34, 3) := by decide +kernel
theorem dX7_dropTasksOf_7 : decode cX7_dropTasksOf 7 = .ok (.invokevirtual 59, 3) := by decide +kernel
theorem dX7_dropTasksOf_10 : decode cX7_dropTasksOf 10 = .ok (.if_icmp .ge 41, 3) := by decide +kernel
theorem dX7_dropTasksOf_13 : decode cX7_dropTasksOf 13 = .ok (.aload_n 0, 1) := by decide +kernel
theorem dX7_dropTasksOf_14 : decode cX7_dropTasksOf 14 = .ok (.getfield 34, 3) := by decide +kernel
theorem dX7_dropTasksOf_17 : decode cX7_dropTasksOf 17 = .ok (.iload_n 2, 1) := by decide +kernel
theorem dX7_dropTasksOf_18 : decode cX7_dropTasksOf 18 = .ok (.invokevirtual 210, 3) := by decide +kernel
theorem dX7_dropTasksOf_21 : decode cX7_dropTasksOf 21 = .ok (.checkcast 181, 3) := by decide +kernel
theorem dX7_dropTasksOf_24 : decode cX7_dropTasksOf 24 = .ok (.astore_n 3, 1) := by decide +kernel
theorem dX7_dropTasksOf_25 : decode cX7_dropTasksOf 25 = .ok (.aload_n 3, 1) := by decide +kernel
theorem dX7_dropTasksOf_26 : decode cX7_dropTasksOf 26 = .ok (.getfield 308, 3) := by decide +kernel
theorem dX7_dropTasksOf_29 : decode cX7_dropTasksOf 29 = .ok (.iload_n 1, 1) := by decide +kernel
theorem dX7_dropTasksOf_30 : decode cX7_dropTasksOf 30 = .ok (.if_icmp .ne 15, 3) := by decide +kernel
theorem dX7_dropTasksOf_33 : decode cX7_dropTasksOf 33 = .ok (.aload_n 3, 1) := by decide +kernel
theorem dX7_dropTasksOf_34 : decode cX7_dropTasksOf 34 = .ok (.getfield 196, 3) := by decide +kernel
theorem dX7_dropTasksOf_37 : decode cX7_dropTasksOf 37 = .ok (.ifCond .ne 8, 3) := by decide +kernel
theorem dX7_dropTasksOf_40 : decode cX7_dropTasksOf 40 = .ok (.aload_n 3, 1) := by decide +kernel
theorem dX7_dropTasksOf_41 : decode cX7_dropTasksOf 41 = .ok (.iconst 2, 1) := by decide +kernel
theorem dX7_dropTasksOf_42 : decode cX7_dropTasksOf 42 = .ok (.putfield 196, 3) := by decide +kernel
theorem dX7_dropTasksOf_45 : decode cX7_dropTasksOf 45 = .ok (.iinc 2 1, 3) := by decide +kernel
theorem dX7_dropTasksOf_48 : decode cX7_dropTasksOf 48 = .ok (.goto (-46), 3) := by decide +kernel
theorem dX7_dropTasksOf_51 : decode cX7_dropTasksOf 51 = .ok (.return_, 1) := by decide +kernel
set_option maxHeartbeats 4000000 in
set_option maxRecDepth 100000 in
theorem c_X7_dropTasksOf (l : Launch) (E : State) (G : kG) (S T : kSt) (o : Int64) (ad : kAd) (jm : Nat) (hm : jm < 2 ^ 31) (hS : okN S) (hL : okL S) : Met l yX7_dropTasksOf (.code yX7_dropTasksOf cX7_dropTasksOf 4 none :: wsL_law) ({ frames := 6, cells := 0, slots := 0, locals := 150 } : Room) (va_Pc [.ref (ad 0 0), .int (nI jm)] (kPre E G ad (cto G S T o ad))) (kQv E G (fun ad1 ct1 => ad = ad1 ∧ ct1 = cto G (drp S jm (S.2 0 3)) T o ad)) 0 0 (kB E.heap.size) := by
  refine Met.ofW (cc := cX7_dropTasksOf) (maxL := 4) (ret := none) (by decide) rfl ?_
  intro p e s m args below meth c s₁ B hml hv
  obtain ⟨rfl, hM, hK, hW0⟩ := hv
  have hlocks := B.notSynchronized
  have hr := B.returns
  have Z : kZ p m c cX7_dropTasksOf 4 s _ wsL_law RX7 E G := ⟨⟨B.exec, B.bytes, hml, findClass_of_methodNamed B.named, fun w h => atoms_spec (ws := .code yX7_dropTasksOf cX7_dropTasksOf 4 none :: wsL_law) B.pre w (List.mem_cons_of_mem _ h)⟩, hM, hK⟩
  have hx := Z.1.1
  have hb := Z.1.2.1
  have X := kX.of hW0
  have hl := lv_entry ([.ref (ad 0 0), .int (nI jm)]) (n := 4) (Nat.le_of_ble_eq_true rfl)
  rw [lg_entry_eq]
  generalize (lg_sl ([.ref (ad 0 0), .int (nI jm)]) ++ List.replicate (4 - (lg_sl ([.ref (ad 0 0), .int (nI jm)])).length) Slot.unset).toArray = ls at hl ⊢
  have hl : lv_has ls 4 [(0, .ref (ad 0 0)), (1, .int (nI jm))] := hl
  obtain ⟨hT1, hT2, hT3, hT4, hT5, hT6, hT7⟩ := id hS
  refine lv_iconst (v := 0) hx hb dX7_dropTasksOf_0 (by decide) ?_
  refine lv_istore_n (lv' := [(2, .int 0), (0, .ref (ad 0 0)), (1, .int (nI jm))]) hx hb dX7_dropTasksOf_1 rfl hl (by decide) rfl (fun ls hl => ?_)
  have LOOP_2 : ∀ (d : Nat) (n : Nat), n ≤ S.2 0 3 → S.2 0 3 < n + d → ∀ (H : Heap) (locs : List Loc) (ls : Array Slot), kX E G s H locs ad (cto G (drp S jm n) T o ad) → lv_has ls 4 [(2, .int (nI n)), (0, .ref (ad 0 0)), (1, .int (nI jm))] → W p l e (headSpec (Cond.code yX7_dropTasksOf cX7_dropTasksOf 4 none :: wsL_law) ({ frames := 6, cells := 0, slots := 0, locals := 150 } : Room)).room s m ([.ref (ad 0 0), .int (nI jm)] : List Value).toArray below meth c H locs 0 0 (MQ below (kQv E G (fun ad1 ct1 => ad = ad1 ∧ ct1 = cto G (drp S jm (S.2 0 3)) T o ad)) ([.ref (ad 0 0), .int (nI jm)] : List Value).toArray s 0 0 (kB E.heap.size)) (F0 m 2 ls []) := by
    intro d
    induction d with
    | zero => intro n h1 h2; intros; exact absurd h2 (by omega)
    | succ d ih =>
      intro n h1 h2 H locs ls X hl
      obtain ⟨s2, s1, s14⟩ := drp_r S jm n
      generalize hTn : drp S jm n = Sn at X s2 s1 s14
      have hSn : okN Sn := okN_c s2 hS
      have hLn : okL Sn := okL_c s2 hL
      obtain ⟨n1, n2, n3, n4, n5, n6, n7⟩ := id hSn
      refine lv_iload_n hx hb dX7_dropTasksOf_2 rfl (lv_at hl 0 rfl) ?_
      refine lv_aload_n hx hb dX7_dropTasksOf_3 rfl (lv_at hl 1 rfl) ?_
      refine k_get (index := 34) (j := 4) (ad := ad) (k := 0) (i := 0) Z X ct_0 inlX7 rfl (by decide) (inU_2 _ (List.mem_of_getElem? (i := 1) rfl)) (fun _ h => h) (v := .ref (ad 1 4)) rfl dX7_dropTasksOf_4 ?_
      refine k_Ri X (k_runV (As := []) (rest := [.int (nI n)]) Z X (c_Jx4a65c_size_8abf5 l E G ad (cto G Sn T o ad) 4 _ _ (nI (Sn.2 0 3)) (ct_1 (by decide))) (k_cwV 0 Z.1.2.2.2.2 (inU_6 _ (List.mem_of_getElem? (i := 21) rfl)) (inU_6 _ (List.mem_of_getElem? (i := 22) rfl)) (inU_6 _ (List.mem_of_getElem? (i := 23) rfl)) (inU_1 _ (List.mem_of_getElem? (i := 17) rfl)) (inU_7 _ (List.mem_of_getElem? (i := 0) rfl)) rfl rfl (by decide +kernel) ⟨Nat.le_of_ble_eq_true rfl, Nat.le_of_ble_eq_true rfl⟩) (k_recv Z X (ct_1 (by decide)) rfl) rfl hl.1 rfl (Nat.le_of_ble_eq_true rfl) dX7_dropTasksOf_7 ⟨(by first | exact Nat.le_of_ble_eq_true rfl | (show _ ≤ (_ : Nat); simp only [headSpec]; omega)), (by first | exact Nat.le_of_ble_eq_true rfl | (show _ ≤ (_ : Nat); simp only [headSpec]; omega))⟩) (fun r_7 ad1 ct1 H locs hp X => ?_)
      obtain ⟨rfl, ha_, hb_⟩ := hp
      rw [← ha_, hb_] at X
      refine lv_icmp_ge (tgt := 51) hx hb dX7_dropTasksOf_10 (by decide) (fun c_10 => ?_) (fun c_10 => ?_)
      · have c_10 : (Sn.2 0 3) ≤ n := (nI_leI (a := (Sn.2 0 3)) (b := n) (by omega) (by omega)).mp c_10
        rw [s2] at c_10
        have hn : n = S.2 0 3 := by omega
        subst hn
        exact k_vret Z X hr hlocks (Nat.le_of_ble_eq_true rfl) (Nat.le_of_ble_eq_true rfl) dX7_dropTasksOf_51 ⟨rfl, by rw [hTn]⟩
      · have c_10 : ¬ (Sn.2 0 3) ≤ n := fun h => c_10 ((nI_leI (a := (Sn.2 0 3)) (b := n) (by omega) (by omega)).mpr h)
        have h7 := n7 n (by omega)
        have hn3 : n < Sn.2 0 3 := by omega
        rw [s2] at c_10
        refine lv_aload_n hx hb dX7_dropTasksOf_13 rfl (lv_at hl 1 rfl) ?_
        refine k_get (index := 34) (j := 4) (ad := ad) (k := 0) (i := 0) Z X ct_0 inlX7 rfl (by decide) (inU_2 _ (List.mem_of_getElem? (i := 1) rfl)) (fun _ h => h) (v := .ref (ad 1 4)) rfl dX7_dropTasksOf_14 ?_
        refine lv_iload_n hx hb dX7_dropTasksOf_17 rfl (lv_at hl 0 rfl) ?_
        refine k_Rq X (k_runV (As := [.int (nI n)]) (rest := []) Z X (c_getS l E G Sn T o ad 4 n (by decide) hLn (by show _ < (_ : Nat); simp only [lcnt]; omega)) (k_cwV 1 Z.1.2.2.2.2 (inU_8 _ (List.mem_of_getElem? (i := 1) rfl)) (inU_8 _ (List.mem_of_getElem? (i := 2) rfl)) (inU_8 _ (List.mem_of_getElem? (i := 3) rfl)) (inU_1 _ (List.mem_of_getElem? (i := 17) rfl)) (inU_8 _ (List.mem_of_getElem? (i := 4) rfl)) rfl rfl (by decide +kernel) ⟨Nat.le_of_ble_eq_true rfl, Nat.le_of_ble_eq_true rfl⟩) (k_recv Z X (ct_1 (by decide)) rfl) rfl hl.1 rfl (Nat.le_of_ble_eq_true rfl) dX7_dropTasksOf_18 ⟨(by first | exact Nat.le_of_ble_eq_true rfl | (show _ ≤ (_ : Nat); simp only [headSpec]; omega)), (by first | exact Nat.le_of_ble_eq_true rfl | (show _ ≤ (_ : Nat); simp only [headSpec]; omega))⟩) (fun r_18 ad1 ct1 H locs hp X => ?_)
        obtain ⟨rfl, ha_, hb_⟩ := hp
        rw [← ha_, hb_] at X
        refine k_cast (r := (RX5, TX5, 6)) Z X (ct_9 (by first | assumption | omega | decide)) rfl (inU_13 _ (List.mem_of_getElem? (i := 4) rfl)) dX7_dropTasksOf_21 ?_
        refine lv_astore_n (lv' := [(3, .ref (ad 9 n)), (2, .int (nI n)), (0, .ref (ad 0 0)), (1, .int (nI jm))]) hx hb dX7_dropTasksOf_24 rfl hl (by decide) rfl (fun ls hl => ?_)
        refine lv_aload_n hx hb dX7_dropTasksOf_25 rfl (lv_at hl 0 rfl) ?_
        refine k_get (index := 308) (j := 1) (ad := ad) (k := 9) (i := n) Z X (ct_9 (by first | assumption | omega | decide)) inlX5 rfl (by decide) (inU_13 _ (List.mem_of_getElem? (i := 5) rfl)) (fun _ h => h) (v := .int (nI (Sn.2 4 n))) rfl dX7_dropTasksOf_26 ?_
        refine lv_iload_n hx hb dX7_dropTasksOf_29 rfl (lv_at hl 3 rfl) ?_
        refine lv_icmp_ne (tgt := 45) hx hb dX7_dropTasksOf_30 (by decide) (fun c_30 => ?_) (fun c_30 => ?_)
        · have c_30 : ¬ (Sn.2 4 n) = jm := fun h => c_30 ((nI_eq (a := (Sn.2 4 n)) (b := jm) (by omega) hm).mpr h)
          rw [s2] at c_30
          refine lv_iinc (v := (nI (n + 1))) (lv' := [(2, .int (nI (n + 1))), (3, .ref (ad 9 n)), (0, .ref (ad 0 0)), (1, .int (nI jm))]) hx hb dX7_dropTasksOf_45 hl (k := 1) rfl (nI_1 _) (by decide) rfl (fun ls hl => ?_)
          refine lv_goto (tgt := 2) hx hb dX7_dropTasksOf_48 (by decide) ?_
          have hs : drp S jm (n + 1) = Sn := by simp only [drp, hTn]; exact if_neg (fun h => c_30 h.1)
          exact ih (n + 1) (by omega) (by omega) _ _ _ (hs ▸ X) (lv_sub hl [0, 2, 3] rfl)
        · have c_30 : (Sn.2 4 n) = jm := (nI_eq (a := (Sn.2 4 n)) (b := jm) (by omega) hm).mp c_30
          rw [s2] at c_30
          refine lv_aload_n hx hb dX7_dropTasksOf_33 rfl (lv_at hl 0 rfl) ?_
          refine k_get (index := 196) (j := 5) (ad := ad) (k := 9) (i := n) Z X (ct_9 (by first | assumption | omega | decide)) inlX5 rfl (by decide) (inU_13 _ (List.mem_of_getElem? (i := 6) rfl)) (fun _ h => h) (v := .int (Sn.1 14 n)) rfl dX7_dropTasksOf_34 ?_
          refine lv_if_ne (tgt := 45) hx hb dX7_dropTasksOf_37 (by decide) (fun c_37 => ?_) (fun c_37 => ?_)
          · rw [s14 n (Nat.le_refl n)] at c_37
            refine lv_iinc (v := (nI (n + 1))) (lv' := [(2, .int (nI (n + 1))), (3, .ref (ad 9 n)), (0, .ref (ad 0 0)), (1, .int (nI jm))]) hx hb dX7_dropTasksOf_45 hl (k := 1) rfl (nI_1 _) (by decide) rfl (fun ls hl => ?_)
            refine lv_goto (tgt := 2) hx hb dX7_dropTasksOf_48 (by decide) ?_
            have hs : drp S jm (n + 1) = Sn := by simp only [drp, hTn]; exact if_neg (fun h => c_37 h.2)
            exact ih (n + 1) (by omega) (by omega) _ _ _ (hs ▸ X) (lv_sub hl [0, 2, 3] rfl)
          · rw [s14 n (Nat.le_refl n)] at c_37
            refine lv_aload_n hx hb dX7_dropTasksOf_40 rfl (lv_at hl 0 rfl) ?_
            refine lv_iconst (v := 2) hx hb dX7_dropTasksOf_41 (by decide) ?_
            refine k_put (index := 196) (j := 5) (k := 9) (i := n) Z X (ct_9 hn3) inlX5 tyX5_ok nmX5 rfl (by decide) (inU_13 _ (List.mem_of_getElem? (i := 6) rfl)) (fun _ h => h) rfl (Nat.le_of_ble_eq_true rfl) rfl rfl dX7_dropTasksOf_42 (fun H locs X => ?_)
            have X : kX E G s H locs ad (cto G (sI Sn 14 n 2) T o ad) := X.eq (cs_tkst _ _ hn3)
            refine lv_iinc (v := (nI (n + 1))) (lv' := [(2, .int (nI (n + 1))), (3, .ref (ad 9 n)), (0, .ref (ad 0 0)), (1, .int (nI jm))]) hx hb dX7_dropTasksOf_45 hl (k := 1) rfl (nI_1 _) (by decide) rfl (fun ls hl => ?_)
            refine lv_goto (tgt := 2) hx hb dX7_dropTasksOf_48 (by decide) ?_
            have hs : drp S jm (n + 1) = sI Sn 14 n 2 := by simp only [drp, hTn]; exact if_pos ⟨c_30, c_37⟩
            exact ih (n + 1) (by omega) (by omega) _ _ _ (hs ▸ X) (lv_sub hl [0, 2, 3] rfl)
  exact LOOP_2 (S.2 0 3 + 1) 0 (by omega) (by omega) _ _ _ X (lv_sub hl [0, 1, 2] rfl)
theorem dX7_rankOf_0 : decode cX7_rankOf 0 = .ok (.iconst 0, 1) := by decide +kernel
theorem dX7_rankOf_1 : decode cX7_rankOf 1 = .ok (.istore_n 2, 1) := by decide +kernel
theorem dX7_rankOf_2 : decode cX7_rankOf 2 = .ok (.iconst 0, 1) := by decide +kernel
theorem dX7_rankOf_3 : decode cX7_rankOf 3 = .ok (.istore_n 3, 1) := by decide +kernel
theorem dX7_rankOf_4 : decode cX7_rankOf 4 = .ok (.iload_n 3, 1) := by decide +kernel
theorem dX7_rankOf_5 : decode cX7_rankOf 5 = .ok (.aload_n 0, 1) := by decide +kernel
theorem dX7_rankOf_6 : decode cX7_rankOf 6 = .ok (.getfield 34, 3) := by decide +kernel
theorem dX7_rankOf_9 : decode cX7_rankOf 9 = .ok (.invokevirtual 59, 3) := by decide +kernel
theorem dX7_rankOf_12 : decode cX7_rankOf 12 = .ok (.if_icmp .ge 46, 3) := by decide +kernel
theorem dX7_rankOf_15 : decode cX7_rankOf 15 = .ok (.aload_n 0, 1) := by decide +kernel
theorem dX7_rankOf_16 : decode cX7_rankOf 16 = .ok (.getfield 34, 3) := by decide +kernel
theorem dX7_rankOf_19 : decode cX7_rankOf 19 = .ok (.iload_n 3, 1) := by decide +kernel
theorem dX7_rankOf_20 : decode cX7_rankOf 20 = .ok (.invokevirtual 210, 3) := by decide +kernel
theorem dX7_rankOf_23 : decode cX7_rankOf 23 = .ok (.checkcast 181, 3) := by decide +kernel
theorem dX7_rankOf_26 : decode cX7_rankOf 26 = .ok (.astore 4, 2) := by decide +kernel
theorem dX7_rankOf_28 : decode cX7_rankOf 28 = .ok (.aload 4, 2) := by decide +kernel
theorem dX7_rankOf_30 : decode cX7_rankOf 30 = .ok (.aload_n 1, 1) := by decide +kernel
theorem dX7_rankOf_31 : decode cX7_rankOf 31 = .ok (.getfield 191, 3) := by decide +kernel
theorem dX7_rankOf_34 : decode cX7_rankOf 34 = .ok (.invokevirtual 256, 3) := by decide +kernel
theorem dX7_rankOf_37 : decode cX7_rankOf 37 = .ok (.ifCond .eq 15, 3) := by decide +kernel
theorem dX7_rankOf_40 : decode cX7_rankOf 40 = .ok (.aload 4, 2) := by decide +kernel
theorem dX7_rankOf_42 : decode cX7_rankOf 42 = .ok (.aload_n 1, 1) := by decide +kernel
theorem dX7_rankOf_43 : decode cX7_rankOf 43 = .ok (.invokevirtual 310, 3) := by decide +kernel
theorem dX7_rankOf_46 : decode cX7_rankOf 46 = .ok (.ifCond .eq 6, 3) := by decide +kernel
theorem dX7_rankOf_49 : decode cX7_rankOf 49 = .ok (.iinc 2 1, 3) := by decide +kernel
theorem dX7_rankOf_52 : decode cX7_rankOf 52 = .ok (.iinc 3 1, 3) := by decide +kernel
theorem dX7_rankOf_55 : decode cX7_rankOf 55 = .ok (.goto (-51), 3) := by decide +kernel
theorem dX7_rankOf_58 : decode cX7_rankOf 58 = .ok (.iload_n 2, 1) := by decide +kernel
theorem dX7_rankOf_59 : decode cX7_rankOf 59 = .ok (.ireturn, 1) := by decide +kernel
set_option maxHeartbeats 4000000 in
set_option maxRecDepth 100000 in
theorem c_X7_rankOf (l : Launch) (E : State) (G : kG) (S T : kSt) (o : Int64) (ad : kAd) (t : Nat) (ht : t < S.2 0 3) (hS : okN S) (hL : okL S) : Met l yX7_rankOf (.code yX7_rankOf cX7_rankOf 5 (some .int) :: wsL_law) ({ frames := 6, cells := 0, slots := 0, locals := 150 } : Room) (va_Pc [.ref (ad 0 0), .ref (ad 9 t)] (kPre E G ad (cto G S T o ad))) (kQi E G (fun r ad1 ct1 => r = nI (rnk S (S.2 5 t) t (S.2 0 3)) ∧ ad = ad1 ∧ ct1 = cto G S T o ad)) 0 0 (kB E.heap.size) := by
  refine Met.ofW (cc := cX7_rankOf) (maxL := 5) (ret := (some .int)) (by decide) rfl ?_
  intro p e s m args below meth c s₁ B hml hv
  obtain ⟨rfl, hM, hK, hW0⟩ := hv
  have hlocks := B.notSynchronized
  have hr := B.returns
  have Z : kZ p m c cX7_rankOf 5 s _ wsL_law RX7 E G := ⟨⟨B.exec, B.bytes, hml, findClass_of_methodNamed B.named, fun w h => atoms_spec (ws := .code yX7_rankOf cX7_rankOf 5 (some .int) :: wsL_law) B.pre w (List.mem_cons_of_mem _ h)⟩, hM, hK⟩
  have hx := Z.1.1
  have hb := Z.1.2.1
  have X := kX.of hW0
  have hl := lv_entry ([.ref (ad 0 0), .ref (ad 9 t)]) (n := 5) (Nat.le_of_ble_eq_true rfl)
  rw [lg_entry_eq]
  generalize (lg_sl ([.ref (ad 0 0), .ref (ad 9 t)]) ++ List.replicate (5 - (lg_sl ([.ref (ad 0 0), .ref (ad 9 t)])).length) Slot.unset).toArray = ls at hl ⊢
  have hl : lv_has ls 5 [(0, .ref (ad 0 0)), (1, .ref (ad 9 t))] := hl
  obtain ⟨hT1, hT2, hT3, hT4, hT5, hT6, hT7⟩ := id hS
  have h7t := (hT7 t ht).2
  refine lv_iconst (v := 0) hx hb dX7_rankOf_0 (by decide) ?_
  refine lv_istore_n (lv' := [(2, .int 0), (0, .ref (ad 0 0)), (1, .ref (ad 9 t))]) hx hb dX7_rankOf_1 rfl hl (by decide) rfl (fun ls hl => ?_)
  refine lv_iconst (v := 0) hx hb dX7_rankOf_2 (by decide) ?_
  refine lv_istore_n (lv' := [(3, .int 0), (2, .int 0), (0, .ref (ad 0 0)), (1, .ref (ad 9 t))]) hx hb dX7_rankOf_3 rfl hl (by decide) rfl (fun ls hl => ?_)
  have LOOP_4 : ∀ (d : Nat) (n : Nat), n ≤ S.2 0 3 → S.2 0 3 < n + d → ∀ (H : Heap) (locs : List Loc) (ls : Array Slot), kX E G s H locs ad (cto G S T o ad) → lv_has ls 5 [(3, .int (nI n)), (2, .int (nI (rnk S (S.2 5 t) t n))), (0, .ref (ad 0 0)), (1, .ref (ad 9 t))] → W p l e (headSpec (Cond.code yX7_rankOf cX7_rankOf 5 (some .int) :: wsL_law) ({ frames := 6, cells := 0, slots := 0, locals := 150 } : Room)).room s m ([.ref (ad 0 0), .ref (ad 9 t)] : List Value).toArray below meth c H locs 0 0 (MQ below (kQi E G (fun r ad1 ct1 => r = nI (rnk S (S.2 5 t) t (S.2 0 3)) ∧ ad = ad1 ∧ ct1 = cto G S T o ad)) ([.ref (ad 0 0), .ref (ad 9 t)] : List Value).toArray s 0 0 (kB E.heap.size)) (F0 m 4 ls []) := by
    intro d
    induction d with
    | zero => intro n h1 h2; intros; exact absurd h2 (by omega)
    | succ d ih =>
      intro n h1 h2 H locs ls X hl
      refine lv_iload_n hx hb dX7_rankOf_4 rfl (lv_at hl 0 rfl) ?_
      refine lv_aload_n hx hb dX7_rankOf_5 rfl (lv_at hl 2 rfl) ?_
      refine k_get (index := 34) (j := 4) (ad := ad) (k := 0) (i := 0) Z X ct_0 inlX7 rfl (by decide) (inU_2 _ (List.mem_of_getElem? (i := 1) rfl)) (fun _ h => h) (v := .ref (ad 1 4)) rfl dX7_rankOf_6 ?_
      refine k_Ri X (k_runV (As := []) (rest := [.int (nI n)]) Z X (c_Jx4a65c_size_8abf5 l E G ad (cto G S T o ad) 4 _ _ (nI (S.2 0 3)) (ct_1 (by decide))) (k_cwV 0 Z.1.2.2.2.2 (inU_6 _ (List.mem_of_getElem? (i := 21) rfl)) (inU_6 _ (List.mem_of_getElem? (i := 22) rfl)) (inU_6 _ (List.mem_of_getElem? (i := 23) rfl)) (inU_1 _ (List.mem_of_getElem? (i := 17) rfl)) (inU_7 _ (List.mem_of_getElem? (i := 0) rfl)) rfl rfl (by decide +kernel) ⟨Nat.le_of_ble_eq_true rfl, Nat.le_of_ble_eq_true rfl⟩) (k_recv Z X (ct_1 (by decide)) rfl) rfl hl.1 rfl (Nat.le_of_ble_eq_true rfl) dX7_rankOf_9 ⟨(by first | exact Nat.le_of_ble_eq_true rfl | (show _ ≤ (_ : Nat); simp only [headSpec]; omega)), (by first | exact Nat.le_of_ble_eq_true rfl | (show _ ≤ (_ : Nat); simp only [headSpec]; omega))⟩) (fun r_9 ad1 ct1 H locs hp X => ?_)
      obtain ⟨rfl, ha_, hb_⟩ := hp
      rw [← ha_, hb_] at X
      refine lv_icmp_ge (tgt := 58) hx hb dX7_rankOf_12 (by decide) (fun c_12 => ?_) (fun c_12 => ?_)
      · have c_12 : (S.2 0 3) ≤ n := (nI_leI (a := (S.2 0 3)) (b := n) (by omega) (by omega)).mp c_12
        refine lv_iload_n hx hb dX7_rankOf_58 rfl (lv_at hl 1 rfl) ?_
        have hn : n = S.2 0 3 := by omega
        subst hn
        exact k_iret Z X hr hlocks rfl (Nat.le_of_ble_eq_true rfl) (Nat.le_of_ble_eq_true rfl) dX7_rankOf_59 ⟨rfl, rfl, rfl⟩
      · have c_12 : ¬ (S.2 0 3) ≤ n := fun h => c_12 ((nI_leI (a := (S.2 0 3)) (b := n) (by omega) (by omega)).mpr h)
        refine lv_aload_n hx hb dX7_rankOf_15 rfl (lv_at hl 2 rfl) ?_
        refine k_get (index := 34) (j := 4) (ad := ad) (k := 0) (i := 0) Z X ct_0 inlX7 rfl (by decide) (inU_2 _ (List.mem_of_getElem? (i := 1) rfl)) (fun _ h => h) (v := .ref (ad 1 4)) rfl dX7_rankOf_16 ?_
        refine lv_iload_n hx hb dX7_rankOf_19 rfl (lv_at hl 0 rfl) ?_
        refine k_Rq X (k_runV (As := [.int (nI n)]) (rest := []) Z X (c_getS l E G S T o ad 4 n (by decide) hL (by show _ < (_ : Nat); simp only [lcnt]; omega)) (k_cwV 1 Z.1.2.2.2.2 (inU_8 _ (List.mem_of_getElem? (i := 1) rfl)) (inU_8 _ (List.mem_of_getElem? (i := 2) rfl)) (inU_8 _ (List.mem_of_getElem? (i := 3) rfl)) (inU_1 _ (List.mem_of_getElem? (i := 17) rfl)) (inU_8 _ (List.mem_of_getElem? (i := 4) rfl)) rfl rfl (by decide +kernel) ⟨Nat.le_of_ble_eq_true rfl, Nat.le_of_ble_eq_true rfl⟩) (k_recv Z X (ct_1 (by decide)) rfl) rfl hl.1 rfl (Nat.le_of_ble_eq_true rfl) dX7_rankOf_20 ⟨(by first | exact Nat.le_of_ble_eq_true rfl | (show _ ≤ (_ : Nat); simp only [headSpec]; omega)), (by first | exact Nat.le_of_ble_eq_true rfl | (show _ ≤ (_ : Nat); simp only [headSpec]; omega))⟩) (fun r_20 ad1 ct1 H locs hp X => ?_)
        obtain ⟨rfl, ha_, hb_⟩ := hp
        rw [← ha_, hb_] at X
        refine k_cast (r := (RX5, TX5, 6)) Z X (ct_9 (by first | assumption | omega | decide)) rfl (inU_13 _ (List.mem_of_getElem? (i := 4) rfl)) dX7_rankOf_23 ?_
        refine lv_astore (lv' := [(4, .ref (ad 9 n)), (3, .int (nI n)), (2, .int (nI (rnk S (S.2 5 t) t n))), (0, .ref (ad 0 0)), (1, .ref (ad 9 t))]) hx hb dX7_rankOf_26 hl (by decide) rfl (fun ls hl => ?_)
        refine lv_aload hx hb dX7_rankOf_28 (lv_at hl 0 rfl) ?_
        refine lv_aload_n hx hb dX7_rankOf_30 rfl (lv_at hl 4 rfl) ?_
        refine k_get (index := 191) (j := 2) (ad := ad) (k := 9) (i := t) Z X (ct_9 ht) inlX5 rfl (by decide) (inU_23 _ (List.mem_of_getElem? (i := 19) rfl)) (fun _ h => h) (v := .ref (ad 4 (S.2 5 t))) rfl dX7_rankOf_31 ?_
        refine k_Ri X (k_runV (As := [.ref (ad 4 (S.2 5 t))]) (rest := []) Z X (c_X5_isOpenFor l E G S T o ad n (S.2 5 t) (by omega) h7t hS) (k_cwV 1 Z.1.2.2.2.2 (inU_26 _ (List.mem_of_getElem? (i := 10) rfl)) (inU_26 _ (List.mem_of_getElem? (i := 11) rfl)) (inU_26 _ (List.mem_of_getElem? (i := 12) rfl)) (inU_14 _ (List.mem_of_getElem? (i := 23) rfl)) (inU_26 _ (List.mem_of_getElem? (i := 13) rfl)) rfl rfl (by decide +kernel) ⟨Nat.le_of_ble_eq_true rfl, Nat.le_of_ble_eq_true rfl⟩) (k_recv Z X (ct_9 (by first | assumption | omega | decide)) rfl) rfl hl.1 rfl (Nat.le_of_ble_eq_true rfl) dX7_rankOf_34 ⟨(by first | exact Nat.le_of_ble_eq_true rfl | (show _ ≤ (_ : Nat); simp only [headSpec]; omega)), (by first | exact Nat.le_of_ble_eq_true rfl | (show _ ≤ (_ : Nat); simp only [headSpec]; omega))⟩) (fun r_34 ad1 ct1 H locs hp X => ?_)
        obtain ⟨rfl, ha_, hb_⟩ := hp
        rw [← ha_, hb_] at X
        refine lv_if_eq (tgt := 52) hx hb dX7_rankOf_37 (by decide) (fun c_37 => ?_) (fun c_37 => ?_)
        · have c_37 : opn S (S.2 5 t) n = false := bI_0 c_37
          refine lv_iinc (v := (nI (n + 1))) (lv' := [(3, .int (nI (n + 1))), (4, .ref (ad 9 n)), (2, .int (nI (rnk S (S.2 5 t) t n))), (0, .ref (ad 0 0)), (1, .ref (ad 9 t))]) hx hb dX7_rankOf_52 hl (k := 1) rfl (nI_1 _) (by decide) rfl (fun ls hl => ?_)
          refine lv_goto (tgt := 4) hx hb dX7_rankOf_55 (by decide) ?_
          have e2 : rnk S (S.2 5 t) t (n + 1) = rnk S (S.2 5 t) t n := by simp [rnk, c_37]
          rw [← e2] at hl
          exact ih (n + 1) (by omega) (by omega) _ _ _ X (lv_sub hl [0, 2, 3, 4] rfl)
        · have c_37 : opn S (S.2 5 t) n = true := bI_1 c_37
          refine lv_aload hx hb dX7_rankOf_40 (lv_at hl 0 rfl) ?_
          refine lv_aload_n hx hb dX7_rankOf_42 rfl (lv_at hl 4 rfl) ?_
          refine k_Ri X (k_runV (As := [.ref (ad 9 t)]) (rest := []) Z X (c_X5_comesBefore l E G S T o ad n t (by omega) ht hT4) (k_cwV 1 Z.1.2.2.2.2 (inU_26 _ (List.mem_of_getElem? (i := 18) rfl)) (inU_26 _ (List.mem_of_getElem? (i := 19) rfl)) (inU_26 _ (List.mem_of_getElem? (i := 20) rfl)) (inU_14 _ (List.mem_of_getElem? (i := 23) rfl)) (inU_26 _ (List.mem_of_getElem? (i := 21) rfl)) rfl rfl (by decide +kernel) ⟨Nat.le_of_ble_eq_true rfl, Nat.le_of_ble_eq_true rfl⟩) (k_recv Z X (ct_9 (by first | assumption | omega | decide)) rfl) rfl hl.1 rfl (Nat.le_of_ble_eq_true rfl) dX7_rankOf_43 ⟨(by first | exact Nat.le_of_ble_eq_true rfl | (show _ ≤ (_ : Nat); simp only [headSpec]; omega)), (by first | exact Nat.le_of_ble_eq_true rfl | (show _ ≤ (_ : Nat); simp only [headSpec]; omega))⟩) (fun r_43 ad1 ct1 H locs hp X => ?_)
          obtain ⟨rfl, ha_, hb_⟩ := hp
          rw [← ha_, hb_] at X
          refine lv_if_eq (tgt := 52) hx hb dX7_rankOf_46 (by decide) (fun c_46 => ?_) (fun c_46 => ?_)
          · have c_46 : ahead S t n = false := bI_0 c_46
            refine lv_iinc (v := (nI (n + 1))) (lv' := [(3, .int (nI (n + 1))), (4, .ref (ad 9 n)), (2, .int (nI (rnk S (S.2 5 t) t n))), (0, .ref (ad 0 0)), (1, .ref (ad 9 t))]) hx hb dX7_rankOf_52 hl (k := 1) rfl (nI_1 _) (by decide) rfl (fun ls hl => ?_)
            refine lv_goto (tgt := 4) hx hb dX7_rankOf_55 (by decide) ?_
            have e2 : rnk S (S.2 5 t) t (n + 1) = rnk S (S.2 5 t) t n := by simp [rnk, c_37, c_46]
            rw [← e2] at hl
            exact ih (n + 1) (by omega) (by omega) _ _ _ X (lv_sub hl [0, 2, 3, 4] rfl)
          · have c_46 : ahead S t n = true := bI_1 c_46
            refine lv_iinc (v := (nI (rnk S (S.2 5 t) t (n + 1)))) (lv' := [(2, .int (nI (rnk S (S.2 5 t) t (n + 1)))), (4, .ref (ad 9 n)), (3, .int (nI n)), (0, .ref (ad 0 0)), (1, .ref (ad 9 t))]) hx hb dX7_rankOf_49 hl (k := 2) rfl (by rw [show rnk S (S.2 5 t) t (n + 1) = rnk S (S.2 5 t) t n + 1 from by simp [rnk, c_37, c_46]]; exact nI_1 _) (by decide) rfl (fun ls hl => ?_)
            refine lv_iinc (v := (nI (n + 1))) (lv' := [(3, .int (nI (n + 1))), (2, .int (nI (rnk S (S.2 5 t) t (n + 1)))), (4, .ref (ad 9 n)), (0, .ref (ad 0 0)), (1, .ref (ad 9 t))]) hx hb dX7_rankOf_52 hl (k := 2) rfl (nI_1 _) (by decide) rfl (fun ls hl => ?_)
            refine lv_goto (tgt := 4) hx hb dX7_rankOf_55 (by decide) ?_
            exact ih (n + 1) (by omega) (by omega) _ _ _ X (lv_sub hl [0, 1, 3, 4] rfl)
  exact LOOP_4 (S.2 0 3 + 1) 0 (by omega) (by omega) _ _ _ X (lv_sub hl [0, 1, 2, 3] rfl)
theorem dX7_hasStandingSpend_0 : decode cX7_hasStandingSpend 0 = .ok (.iconst 0, 1) := by decide +kernel
theorem dX7_hasStandingSpend_1 : decode cX7_hasStandingSpend 1 = .ok (.istore_n 2, 1) := by decide +kernel
theorem dX7_hasStandingSpend_2 : decode cX7_hasStandingSpend 2 = .ok (.iload_n 2, 1) := by decide +kernel
theorem dX7_hasStandingSpend_3 : decode cX7_hasStandingSpend 3 = .ok (.aload_n 0, 1) := by decide +kernel
theorem dX7_hasStandingSpend_4 : decode cX7_hasStandingSpend 4 = .ok (.getfield 31, 3) := by decide +kernel
theorem dX7_hasStandingSpend_7 : decode cX7_hasStandingSpend 7 = .ok (.invokevirtual 59, 3) := by decide +kernel
theorem dX7_hasStandingSpend_10 : decode cX7_hasStandingSpend 10 = .ok (.if_icmp .ge 41, 3) := by decide +kernel
theorem dX7_hasStandingSpend_13 : decode cX7_hasStandingSpend 13 = .ok (.aload_n 0, 1) := by decide +kernel
theorem dX7_hasStandingSpend_14 : decode cX7_hasStandingSpend 14 = .ok (.getfield 31, 3) := by decide +kernel
theorem dX7_hasStandingSpend_17 : decode cX7_hasStandingSpend 17 = .ok (.iload_n 2, 1) := by decide +kernel
theorem dX7_hasStandingSpend_18 : decode cX7_hasStandingSpend 18 = .ok (.invokevirtual 210, 3) := by decide +kernel
theorem dX7_hasStandingSpend_21 : decode cX7_hasStandingSpend 21 = .ok (.checkcast 175, 3) := by decide +kernel
theorem dX7_hasStandingSpend_24 : decode cX7_hasStandingSpend 24 = .ok (.astore_n 3, 1) := by decide +kernel
theorem dX7_hasStandingSpend_25 : decode cX7_hasStandingSpend 25 = .ok (.aload_n 3, 1) := by decide +kernel
theorem dX7_hasStandingSpend_26 : decode cX7_hasStandingSpend 26 = .ok (.getfield 241, 3) := by decide +kernel
theorem dX7_hasStandingSpend_29 : decode cX7_hasStandingSpend 29 = .ok (.getfield 127, 3) := by decide +kernel
theorem dX7_hasStandingSpend_32 : decode cX7_hasStandingSpend 32 = .ok (.iload_n 1, 1) := by decide +kernel
theorem dX7_hasStandingSpend_33 : decode cX7_hasStandingSpend 33 = .ok (.if_icmp .ne 12, 3) := by decide +kernel
theorem dX7_hasStandingSpend_36 : decode cX7_hasStandingSpend 36 = .ok (.aload_n 3, 1) := by decide +kernel
theorem dX7_hasStandingSpend_37 : decode cX7_hasStandingSpend 37 = .ok (.getfield 240, 3) := by decide +kernel
theorem dX7_hasStandingSpend_40 : decode cX7_hasStandingSpend 40 = .ok (.ifCond .ne 5, 3) := by decide +kernel
theorem dX7_hasStandingSpend_43 : decode cX7_hasStandingSpend 43 = .ok (.iconst 1, 1) := by decide +kernel
theorem dX7_hasStandingSpend_44 : decode cX7_hasStandingSpend 44 = .ok (.ireturn, 1) := by decide +kernel
theorem dX7_hasStandingSpend_45 : decode cX7_hasStandingSpend 45 = .ok (.iinc 2 1, 3) := by decide +kernel
theorem dX7_hasStandingSpend_48 : decode cX7_hasStandingSpend 48 = .ok (.goto (-46), 3) := by decide +kernel
theorem dX7_hasStandingSpend_51 : decode cX7_hasStandingSpend 51 = .ok (.iconst 0, 1) := by decide +kernel
theorem dX7_hasStandingSpend_52 : decode cX7_hasStandingSpend 52 = .ok (.ireturn, 1) := by decide +kernel
set_option maxHeartbeats 4000000 in
set_option maxRecDepth 100000 in
theorem c_X7_hasStandingSpend (l : Launch) (E : State) (G : kG) (S T : kSt) (o : Int64) (ad : kAd) (jm : Nat) (hm : jm < 2 ^ 31) (hS : okN S) (hL : okL S) : Met l yX7_hasStandingSpend (.code yX7_hasStandingSpend cX7_hasStandingSpend 4 (some .boolean) :: wsL_law) ({ frames := 6, cells := 0, slots := 0, locals := 150 } : Room) (va_Pc [.ref (ad 0 0), .int (nI jm)] (kPre E G ad (cto G S T o ad))) (kQi E G (fun r ad1 ct1 => r = bI (!noSp S jm (S.2 0 2)) ∧ ad = ad1 ∧ ct1 = cto G S T o ad)) 0 0 (kB E.heap.size) := by
  refine Met.ofW (cc := cX7_hasStandingSpend) (maxL := 4) (ret := (some .boolean)) (by decide) rfl ?_
  intro p e s m args below meth c s₁ B hml hv
  obtain ⟨rfl, hM, hK, hW0⟩ := hv
  have hlocks := B.notSynchronized
  have hr := B.returns
  have Z : kZ p m c cX7_hasStandingSpend 4 s _ wsL_law RX7 E G := ⟨⟨B.exec, B.bytes, hml, findClass_of_methodNamed B.named, fun w h => atoms_spec (ws := .code yX7_hasStandingSpend cX7_hasStandingSpend 4 (some .boolean) :: wsL_law) B.pre w (List.mem_cons_of_mem _ h)⟩, hM, hK⟩
  have hx := Z.1.1
  have hb := Z.1.2.1
  have X := kX.of hW0
  have hl := lv_entry ([.ref (ad 0 0), .int (nI jm)]) (n := 4) (Nat.le_of_ble_eq_true rfl)
  rw [lg_entry_eq]
  generalize (lg_sl ([.ref (ad 0 0), .int (nI jm)]) ++ List.replicate (4 - (lg_sl ([.ref (ad 0 0), .int (nI jm)])).length) Slot.unset).toArray = ls at hl ⊢
  have hl : lv_has ls 4 [(0, .ref (ad 0 0)), (1, .int (nI jm))] := hl
  obtain ⟨hT1, hT2, hT3, hT4, hT5, hT6, hT7⟩ := id hS
  refine lv_iconst (v := 0) hx hb dX7_hasStandingSpend_0 (by decide) ?_
  refine lv_istore_n (lv' := [(2, .int 0), (0, .ref (ad 0 0)), (1, .int (nI jm))]) hx hb dX7_hasStandingSpend_1 rfl hl (by decide) rfl (fun ls hl => ?_)
  have LOOP_2 : ∀ (d : Nat) (n : Nat), n ≤ (S.2 0 2) → noSp S jm n = true → (S.2 0 2) < n + d → ∀ (H : Heap) (locs : List Loc) (ls : Array Slot), kX E G s H locs ad (cto G S T o ad) → lv_has ls 4 [(2, .int (nI n)), (0, .ref (ad 0 0)), (1, .int (nI jm))] → W p l e (headSpec (Cond.code yX7_hasStandingSpend cX7_hasStandingSpend 4 (some .boolean) :: wsL_law) ({ frames := 6, cells := 0, slots := 0, locals := 150 } : Room)).room s m ([.ref (ad 0 0), .int (nI jm)] : List Value).toArray below meth c H locs 0 0 (MQ below (kQi E G (fun r ad1 ct1 => r = bI (!noSp S jm (S.2 0 2)) ∧ ad = ad1 ∧ ct1 = cto G S T o ad)) ([.ref (ad 0 0), .int (nI jm)] : List Value).toArray s 0 0 (kB E.heap.size)) (F0 m 2 ls []) := by
    intro d
    induction d with
    | zero => intro n h1 hq h2; intros; exact absurd h2 (by omega)
    | succ d ih =>
      intro n h1 hq h2 H locs ls X hl
      refine lv_iload_n hx hb dX7_hasStandingSpend_2 rfl (lv_at hl 0 rfl) ?_
      refine lv_aload_n hx hb dX7_hasStandingSpend_3 rfl (lv_at hl 1 rfl) ?_
      refine k_get (index := 31) (j := 3) (ad := ad) (k := 0) (i := 0) Z X ct_0 inlX7 rfl (by decide) (inU_2 _ (List.mem_of_getElem? (i := 0) rfl)) (fun _ h => h) (v := .ref (ad 1 3)) rfl dX7_hasStandingSpend_4 ?_
      refine k_Ri X (k_runV (As := []) (rest := [.int (nI n)]) Z X (c_Jx4a65c_size_8abf5 l E G ad (cto G S T o ad) 3 _ _ (nI (S.2 0 2)) (ct_1 (by decide))) (k_cwV 0 Z.1.2.2.2.2 (inU_6 _ (List.mem_of_getElem? (i := 21) rfl)) (inU_6 _ (List.mem_of_getElem? (i := 22) rfl)) (inU_6 _ (List.mem_of_getElem? (i := 23) rfl)) (inU_1 _ (List.mem_of_getElem? (i := 17) rfl)) (inU_7 _ (List.mem_of_getElem? (i := 0) rfl)) rfl rfl (by decide +kernel) ⟨Nat.le_of_ble_eq_true rfl, Nat.le_of_ble_eq_true rfl⟩) (k_recv Z X (ct_1 (by decide)) rfl) rfl hl.1 rfl (Nat.le_of_ble_eq_true rfl) dX7_hasStandingSpend_7 ⟨(by first | exact Nat.le_of_ble_eq_true rfl | (show _ ≤ (_ : Nat); simp only [headSpec]; omega)), (by first | exact Nat.le_of_ble_eq_true rfl | (show _ ≤ (_ : Nat); simp only [headSpec]; omega))⟩) (fun r_7 ad1 ct1 H locs hp X => ?_)
      obtain ⟨rfl, ha_, hb_⟩ := hp
      rw [← ha_, hb_] at X
      refine lv_icmp_ge (tgt := 51) hx hb dX7_hasStandingSpend_10 (by decide) (fun c_10 => ?_) (fun c_10 => ?_)
      · have c_10 : (S.2 0 2) ≤ n := (nI_leI (a := (S.2 0 2)) (b := n) (by omega) (by omega)).mp c_10
        refine lv_iconst (v := 0) hx hb dX7_hasStandingSpend_51 (by decide) ?_
        have hn : n = (S.2 0 2) := by omega
        subst hn
        exact k_iret Z X hr hlocks rfl (Nat.le_of_ble_eq_true rfl) (Nat.le_of_ble_eq_true rfl) dX7_hasStandingSpend_52 ⟨bI_f (by rw [hq]; rfl), rfl, rfl⟩
      · have c_10 : ¬ (S.2 0 2) ≤ n := fun h => c_10 ((nI_leI (a := (S.2 0 2)) (b := n) (by omega) (by omega)).mpr h)
        refine lv_aload_n hx hb dX7_hasStandingSpend_13 rfl (lv_at hl 1 rfl) ?_
        refine k_get (index := 31) (j := 3) (ad := ad) (k := 0) (i := 0) Z X ct_0 inlX7 rfl (by decide) (inU_2 _ (List.mem_of_getElem? (i := 0) rfl)) (fun _ h => h) (v := .ref (ad 1 3)) rfl dX7_hasStandingSpend_14 ?_
        refine lv_iload_n hx hb dX7_hasStandingSpend_17 rfl (lv_at hl 0 rfl) ?_
        refine k_Rq X (k_runV (As := [.int (nI n)]) (rest := []) Z X (c_getS l E G S T o ad 3 n (by decide) hL (by show _ < (_ : Nat); simp only [lcnt]; omega)) (k_cwV 1 Z.1.2.2.2.2 (inU_8 _ (List.mem_of_getElem? (i := 1) rfl)) (inU_8 _ (List.mem_of_getElem? (i := 2) rfl)) (inU_8 _ (List.mem_of_getElem? (i := 3) rfl)) (inU_1 _ (List.mem_of_getElem? (i := 17) rfl)) (inU_8 _ (List.mem_of_getElem? (i := 4) rfl)) rfl rfl (by decide +kernel) ⟨Nat.le_of_ble_eq_true rfl, Nat.le_of_ble_eq_true rfl⟩) (k_recv Z X (ct_1 (by decide)) rfl) rfl hl.1 rfl (Nat.le_of_ble_eq_true rfl) dX7_hasStandingSpend_18 ⟨(by first | exact Nat.le_of_ble_eq_true rfl | (show _ ≤ (_ : Nat); simp only [headSpec]; omega)), (by first | exact Nat.le_of_ble_eq_true rfl | (show _ ≤ (_ : Nat); simp only [headSpec]; omega))⟩) (fun r_18 ad1 ct1 H locs hp X => ?_)
        obtain ⟨rfl, ha_, hb_⟩ := hp
        rw [← ha_, hb_] at X
        refine k_cast (r := (RX4, TX4, 5)) Z X (ct_8 (by first | assumption | omega | decide)) rfl (inU_8 _ (List.mem_of_getElem? (i := 21) rfl)) dX7_hasStandingSpend_21 ?_
        refine lv_astore_n (lv' := [(3, .ref (ad 8 n)), (2, .int (nI n)), (0, .ref (ad 0 0)), (1, .int (nI jm))]) hx hb dX7_hasStandingSpend_24 rfl hl (by decide) rfl (fun ls hl => ?_)
        refine lv_aload_n hx hb dX7_hasStandingSpend_25 rfl (lv_at hl 0 rfl) ?_
        refine k_get (index := 241) (j := 1) (ad := ad) (k := 8) (i := n) Z X (ct_8 (by first | assumption | omega | decide)) inlX4 rfl (by decide) (inU_8 _ (List.mem_of_getElem? (i := 23) rfl)) (fun _ h => h) (v := .ref (ad 5 (S.2 3 n))) rfl dX7_hasStandingSpend_26 ?_
        refine k_get (index := 127) (j := 0) (ad := ad) (k := 5) (i := (S.2 3 n)) Z X (ct_5 (hT6 n (by omega))) inlX3 rfl (by decide) (inU_11 _ (List.mem_of_getElem? (i := 3) rfl)) (fun _ h => h) (v := .int (nI (S.2 3 n))) rfl dX7_hasStandingSpend_29 ?_
        refine lv_iload_n hx hb dX7_hasStandingSpend_32 rfl (lv_at hl 3 rfl) ?_
        refine lv_icmp_ne (tgt := 45) hx hb dX7_hasStandingSpend_33 (by decide) (fun c_33 => ?_) (fun c_33 => ?_)
        · have c_33 : ¬ (S.2 3 n) = jm := fun h => c_33 ((nI_eq (a := (S.2 3 n)) (b := jm) (by have := hT6 n (by omega); omega) hm).mpr h)
          refine lv_iinc (v := (nI (n + 1))) (lv' := [(2, .int (nI (n + 1))), (3, .ref (ad 8 n)), (0, .ref (ad 0 0)), (1, .int (nI jm))]) hx hb dX7_hasStandingSpend_45 hl (k := 1) rfl (nI_1 _) (by decide) rfl (fun ls hl => ?_)
          refine lv_goto (tgt := 2) hx hb dX7_hasStandingSpend_48 (by decide) ?_
          have hq2 : noSp S jm (n + 1) = true := by simp [noSp, hq, c_33]
          exact ih (n + 1) (by omega) hq2 (by omega) _ _ _ X (lv_sub hl [0, 2, 3] rfl)
        · have c_33 : (S.2 3 n) = jm := (nI_eq (a := (S.2 3 n)) (b := jm) (by have := hT6 n (by omega); omega) hm).mp c_33
          refine lv_aload_n hx hb dX7_hasStandingSpend_36 rfl (lv_at hl 0 rfl) ?_
          refine k_get (index := 240) (j := 4) (ad := ad) (k := 8) (i := n) Z X (ct_8 (by first | assumption | omega | decide)) inlX4 rfl (by decide) (inU_8 _ (List.mem_of_getElem? (i := 22) rfl)) (fun _ h => h) (v := .int (S.1 12 n)) rfl dX7_hasStandingSpend_37 ?_
          refine lv_if_ne (tgt := 45) hx hb dX7_hasStandingSpend_40 (by decide) (fun c_40 => ?_) (fun c_40 => ?_)
          · refine lv_iinc (v := (nI (n + 1))) (lv' := [(2, .int (nI (n + 1))), (3, .ref (ad 8 n)), (0, .ref (ad 0 0)), (1, .int (nI jm))]) hx hb dX7_hasStandingSpend_45 hl (k := 1) rfl (nI_1 _) (by decide) rfl (fun ls hl => ?_)
            refine lv_goto (tgt := 2) hx hb dX7_hasStandingSpend_48 (by decide) ?_
            have hq2 : noSp S jm (n + 1) = true := by simp [noSp, hq, c_33, c_40]
            exact ih (n + 1) (by omega) hq2 (by omega) _ _ _ X (lv_sub hl [0, 2, 3] rfl)
          · refine lv_iconst (v := 1) hx hb dX7_hasStandingSpend_43 (by decide) ?_
            have hf : noSp S jm (n + 1) = false := by simp [noSp, c_33, c_40]
            exact k_iret Z X hr hlocks rfl (Nat.le_of_ble_eq_true rfl) (Nat.le_of_ble_eq_true rfl) dX7_hasStandingSpend_44 ⟨bI_t (by rw [noSp_m hf (by omega)]; rfl), rfl, rfl⟩
  exact LOOP_2 ((S.2 0 2) + 1) 0 (by omega) rfl (by omega) _ _ _ X (lv_sub hl [0, 1, 2] rfl)
theorem dX7_hasOpenTask_0 : decode cX7_hasOpenTask 0 = .ok (.iconst 0, 1) := by decide +kernel
theorem dX7_hasOpenTask_1 : decode cX7_hasOpenTask 1 = .ok (.istore_n 2, 1) := by decide +kernel
theorem dX7_hasOpenTask_2 : decode cX7_hasOpenTask 2 = .ok (.iload_n 2, 1) := by decide +kernel
theorem dX7_hasOpenTask_3 : decode cX7_hasOpenTask 3 = .ok (.aload_n 0, 1) := by decide +kernel
theorem dX7_hasOpenTask_4 : decode cX7_hasOpenTask 4 = .ok (.getfield 34, 3) := by decide +kernel
theorem dX7_hasOpenTask_7 : decode cX7_hasOpenTask 7 = .ok (.invokevirtual 59, 3) := by decide +kernel
theorem dX7_hasOpenTask_10 : decode cX7_hasOpenTask 10 = .ok (.if_icmp .ge 38, 3) := by decide +kernel
theorem dX7_hasOpenTask_13 : decode cX7_hasOpenTask 13 = .ok (.aload_n 0, 1) := by decide +kernel
theorem dX7_hasOpenTask_14 : decode cX7_hasOpenTask 14 = .ok (.getfield 34, 3) := by decide +kernel
theorem dX7_hasOpenTask_17 : decode cX7_hasOpenTask 17 = .ok (.iload_n 2, 1) := by decide +kernel
theorem dX7_hasOpenTask_18 : decode cX7_hasOpenTask 18 = .ok (.invokevirtual 210, 3) := by decide +kernel
theorem dX7_hasOpenTask_21 : decode cX7_hasOpenTask 21 = .ok (.checkcast 181, 3) := by decide +kernel
theorem dX7_hasOpenTask_24 : decode cX7_hasOpenTask 24 = .ok (.astore_n 3, 1) := by decide +kernel
theorem dX7_hasOpenTask_25 : decode cX7_hasOpenTask 25 = .ok (.aload_n 3, 1) := by decide +kernel
theorem dX7_hasOpenTask_26 : decode cX7_hasOpenTask 26 = .ok (.getfield 308, 3) := by decide +kernel
theorem dX7_hasOpenTask_29 : decode cX7_hasOpenTask 29 = .ok (.iload_n 1, 1) := by decide +kernel
theorem dX7_hasOpenTask_30 : decode cX7_hasOpenTask 30 = .ok (.if_icmp .ne 12, 3) := by decide +kernel
theorem dX7_hasOpenTask_33 : decode cX7_hasOpenTask 33 = .ok (.aload_n 3, 1) := by decide +kernel
theorem dX7_hasOpenTask_34 : decode cX7_hasOpenTask 34 = .ok (.getfield 196, 3) := by decide +kernel
theorem dX7_hasOpenTask_37 : decode cX7_hasOpenTask 37 = .ok (.ifCond .ne 5, 3) := by decide +kernel
theorem dX7_hasOpenTask_40 : decode cX7_hasOpenTask 40 = .ok (.iconst 1, 1) := by decide +kernel
theorem dX7_hasOpenTask_41 : decode cX7_hasOpenTask 41 = .ok (.ireturn, 1) := by decide +kernel
theorem dX7_hasOpenTask_42 : decode cX7_hasOpenTask 42 = .ok (.iinc 2 1, 3) := by decide +kernel
theorem dX7_hasOpenTask_45 : decode cX7_hasOpenTask 45 = .ok (.goto (-43), 3) := by decide +kernel
theorem dX7_hasOpenTask_48 : decode cX7_hasOpenTask 48 = .ok (.iconst 0, 1) := by decide +kernel
theorem dX7_hasOpenTask_49 : decode cX7_hasOpenTask 49 = .ok (.ireturn, 1) := by decide +kernel
set_option maxHeartbeats 4000000 in
set_option maxRecDepth 100000 in
theorem c_X7_hasOpenTask (l : Launch) (E : State) (G : kG) (S T : kSt) (o : Int64) (ad : kAd) (jm : Nat) (hm : jm < 2 ^ 31) (hS : okN S) (hL : okL S) : Met l yX7_hasOpenTask (.code yX7_hasOpenTask cX7_hasOpenTask 4 (some .boolean) :: wsL_law) ({ frames := 6, cells := 0, slots := 0, locals := 150 } : Room) (va_Pc [.ref (ad 0 0), .int (nI jm)] (kPre E G ad (cto G S T o ad))) (kQi E G (fun r ad1 ct1 => r = bI (!noTk S jm (S.2 0 3)) ∧ ad = ad1 ∧ ct1 = cto G S T o ad)) 0 0 (kB E.heap.size) := by
  refine Met.ofW (cc := cX7_hasOpenTask) (maxL := 4) (ret := (some .boolean)) (by decide) rfl ?_
  intro p e s m args below meth c s₁ B hml hv
  obtain ⟨rfl, hM, hK, hW0⟩ := hv
  have hlocks := B.notSynchronized
  have hr := B.returns
  have Z : kZ p m c cX7_hasOpenTask 4 s _ wsL_law RX7 E G := ⟨⟨B.exec, B.bytes, hml, findClass_of_methodNamed B.named, fun w h => atoms_spec (ws := .code yX7_hasOpenTask cX7_hasOpenTask 4 (some .boolean) :: wsL_law) B.pre w (List.mem_cons_of_mem _ h)⟩, hM, hK⟩
  have hx := Z.1.1
  have hb := Z.1.2.1
  have X := kX.of hW0
  have hl := lv_entry ([.ref (ad 0 0), .int (nI jm)]) (n := 4) (Nat.le_of_ble_eq_true rfl)
  rw [lg_entry_eq]
  generalize (lg_sl ([.ref (ad 0 0), .int (nI jm)]) ++ List.replicate (4 - (lg_sl ([.ref (ad 0 0), .int (nI jm)])).length) Slot.unset).toArray = ls at hl ⊢
  have hl : lv_has ls 4 [(0, .ref (ad 0 0)), (1, .int (nI jm))] := hl
  obtain ⟨hT1, hT2, hT3, hT4, hT5, hT6, hT7⟩ := id hS
  refine lv_iconst (v := 0) hx hb dX7_hasOpenTask_0 (by decide) ?_
  refine lv_istore_n (lv' := [(2, .int 0), (0, .ref (ad 0 0)), (1, .int (nI jm))]) hx hb dX7_hasOpenTask_1 rfl hl (by decide) rfl (fun ls hl => ?_)
  have LOOP_2 : ∀ (d : Nat) (n : Nat), n ≤ (S.2 0 3) → noTk S jm n = true → (S.2 0 3) < n + d → ∀ (H : Heap) (locs : List Loc) (ls : Array Slot), kX E G s H locs ad (cto G S T o ad) → lv_has ls 4 [(2, .int (nI n)), (0, .ref (ad 0 0)), (1, .int (nI jm))] → W p l e (headSpec (Cond.code yX7_hasOpenTask cX7_hasOpenTask 4 (some .boolean) :: wsL_law) ({ frames := 6, cells := 0, slots := 0, locals := 150 } : Room)).room s m ([.ref (ad 0 0), .int (nI jm)] : List Value).toArray below meth c H locs 0 0 (MQ below (kQi E G (fun r ad1 ct1 => r = bI (!noTk S jm (S.2 0 3)) ∧ ad = ad1 ∧ ct1 = cto G S T o ad)) ([.ref (ad 0 0), .int (nI jm)] : List Value).toArray s 0 0 (kB E.heap.size)) (F0 m 2 ls []) := by
    intro d
    induction d with
    | zero => intro n h1 hq h2; intros; exact absurd h2 (by omega)
    | succ d ih =>
      intro n h1 hq h2 H locs ls X hl
      refine lv_iload_n hx hb dX7_hasOpenTask_2 rfl (lv_at hl 0 rfl) ?_
      refine lv_aload_n hx hb dX7_hasOpenTask_3 rfl (lv_at hl 1 rfl) ?_
      refine k_get (index := 34) (j := 4) (ad := ad) (k := 0) (i := 0) Z X ct_0 inlX7 rfl (by decide) (inU_2 _ (List.mem_of_getElem? (i := 1) rfl)) (fun _ h => h) (v := .ref (ad 1 4)) rfl dX7_hasOpenTask_4 ?_
      refine k_Ri X (k_runV (As := []) (rest := [.int (nI n)]) Z X (c_Jx4a65c_size_8abf5 l E G ad (cto G S T o ad) 4 _ _ (nI (S.2 0 3)) (ct_1 (by decide))) (k_cwV 0 Z.1.2.2.2.2 (inU_6 _ (List.mem_of_getElem? (i := 21) rfl)) (inU_6 _ (List.mem_of_getElem? (i := 22) rfl)) (inU_6 _ (List.mem_of_getElem? (i := 23) rfl)) (inU_1 _ (List.mem_of_getElem? (i := 17) rfl)) (inU_7 _ (List.mem_of_getElem? (i := 0) rfl)) rfl rfl (by decide +kernel) ⟨Nat.le_of_ble_eq_true rfl, Nat.le_of_ble_eq_true rfl⟩) (k_recv Z X (ct_1 (by decide)) rfl) rfl hl.1 rfl (Nat.le_of_ble_eq_true rfl) dX7_hasOpenTask_7 ⟨(by first | exact Nat.le_of_ble_eq_true rfl | (show _ ≤ (_ : Nat); simp only [headSpec]; omega)), (by first | exact Nat.le_of_ble_eq_true rfl | (show _ ≤ (_ : Nat); simp only [headSpec]; omega))⟩) (fun r_7 ad1 ct1 H locs hp X => ?_)
      obtain ⟨rfl, ha_, hb_⟩ := hp
      rw [← ha_, hb_] at X
      refine lv_icmp_ge (tgt := 48) hx hb dX7_hasOpenTask_10 (by decide) (fun c_10 => ?_) (fun c_10 => ?_)
      · have c_10 : (S.2 0 3) ≤ n := (nI_leI (a := (S.2 0 3)) (b := n) (by omega) (by omega)).mp c_10
        refine lv_iconst (v := 0) hx hb dX7_hasOpenTask_48 (by decide) ?_
        have hn : n = (S.2 0 3) := by omega
        subst hn
        exact k_iret Z X hr hlocks rfl (Nat.le_of_ble_eq_true rfl) (Nat.le_of_ble_eq_true rfl) dX7_hasOpenTask_49 ⟨bI_f (by rw [hq]; rfl), rfl, rfl⟩
      · have c_10 : ¬ (S.2 0 3) ≤ n := fun h => c_10 ((nI_leI (a := (S.2 0 3)) (b := n) (by omega) (by omega)).mpr h)
        refine lv_aload_n hx hb dX7_hasOpenTask_13 rfl (lv_at hl 1 rfl) ?_
        refine k_get (index := 34) (j := 4) (ad := ad) (k := 0) (i := 0) Z X ct_0 inlX7 rfl (by decide) (inU_2 _ (List.mem_of_getElem? (i := 1) rfl)) (fun _ h => h) (v := .ref (ad 1 4)) rfl dX7_hasOpenTask_14 ?_
        refine lv_iload_n hx hb dX7_hasOpenTask_17 rfl (lv_at hl 0 rfl) ?_
        refine k_Rq X (k_runV (As := [.int (nI n)]) (rest := []) Z X (c_getS l E G S T o ad 4 n (by decide) hL (by show _ < (_ : Nat); simp only [lcnt]; omega)) (k_cwV 1 Z.1.2.2.2.2 (inU_8 _ (List.mem_of_getElem? (i := 1) rfl)) (inU_8 _ (List.mem_of_getElem? (i := 2) rfl)) (inU_8 _ (List.mem_of_getElem? (i := 3) rfl)) (inU_1 _ (List.mem_of_getElem? (i := 17) rfl)) (inU_8 _ (List.mem_of_getElem? (i := 4) rfl)) rfl rfl (by decide +kernel) ⟨Nat.le_of_ble_eq_true rfl, Nat.le_of_ble_eq_true rfl⟩) (k_recv Z X (ct_1 (by decide)) rfl) rfl hl.1 rfl (Nat.le_of_ble_eq_true rfl) dX7_hasOpenTask_18 ⟨(by first | exact Nat.le_of_ble_eq_true rfl | (show _ ≤ (_ : Nat); simp only [headSpec]; omega)), (by first | exact Nat.le_of_ble_eq_true rfl | (show _ ≤ (_ : Nat); simp only [headSpec]; omega))⟩) (fun r_18 ad1 ct1 H locs hp X => ?_)
        obtain ⟨rfl, ha_, hb_⟩ := hp
        rw [← ha_, hb_] at X
        refine k_cast (r := (RX5, TX5, 6)) Z X (ct_9 (by first | assumption | omega | decide)) rfl (inU_13 _ (List.mem_of_getElem? (i := 4) rfl)) dX7_hasOpenTask_21 ?_
        refine lv_astore_n (lv' := [(3, .ref (ad 9 n)), (2, .int (nI n)), (0, .ref (ad 0 0)), (1, .int (nI jm))]) hx hb dX7_hasOpenTask_24 rfl hl (by decide) rfl (fun ls hl => ?_)
        refine lv_aload_n hx hb dX7_hasOpenTask_25 rfl (lv_at hl 0 rfl) ?_
        refine k_get (index := 308) (j := 1) (ad := ad) (k := 9) (i := n) Z X (ct_9 (by first | assumption | omega | decide)) inlX5 rfl (by decide) (inU_13 _ (List.mem_of_getElem? (i := 5) rfl)) (fun _ h => h) (v := .int (nI (S.2 4 n))) rfl dX7_hasOpenTask_26 ?_
        refine lv_iload_n hx hb dX7_hasOpenTask_29 rfl (lv_at hl 3 rfl) ?_
        refine lv_icmp_ne (tgt := 42) hx hb dX7_hasOpenTask_30 (by decide) (fun c_30 => ?_) (fun c_30 => ?_)
        · have c_30 : ¬ (S.2 4 n) = jm := fun h => c_30 ((nI_eq (a := (S.2 4 n)) (b := jm) (by have := (hT7 n (by omega)).1; omega) hm).mpr h)
          refine lv_iinc (v := (nI (n + 1))) (lv' := [(2, .int (nI (n + 1))), (3, .ref (ad 9 n)), (0, .ref (ad 0 0)), (1, .int (nI jm))]) hx hb dX7_hasOpenTask_42 hl (k := 1) rfl (nI_1 _) (by decide) rfl (fun ls hl => ?_)
          refine lv_goto (tgt := 2) hx hb dX7_hasOpenTask_45 (by decide) ?_
          have hq2 : noTk S jm (n + 1) = true := by simp [noTk, hq, c_30]
          exact ih (n + 1) (by omega) hq2 (by omega) _ _ _ X (lv_sub hl [0, 2, 3] rfl)
        · have c_30 : (S.2 4 n) = jm := (nI_eq (a := (S.2 4 n)) (b := jm) (by have := (hT7 n (by omega)).1; omega) hm).mp c_30
          refine lv_aload_n hx hb dX7_hasOpenTask_33 rfl (lv_at hl 0 rfl) ?_
          refine k_get (index := 196) (j := 5) (ad := ad) (k := 9) (i := n) Z X (ct_9 (by first | assumption | omega | decide)) inlX5 rfl (by decide) (inU_13 _ (List.mem_of_getElem? (i := 6) rfl)) (fun _ h => h) (v := .int (S.1 14 n)) rfl dX7_hasOpenTask_34 ?_
          refine lv_if_ne (tgt := 42) hx hb dX7_hasOpenTask_37 (by decide) (fun c_37 => ?_) (fun c_37 => ?_)
          · refine lv_iinc (v := (nI (n + 1))) (lv' := [(2, .int (nI (n + 1))), (3, .ref (ad 9 n)), (0, .ref (ad 0 0)), (1, .int (nI jm))]) hx hb dX7_hasOpenTask_42 hl (k := 1) rfl (nI_1 _) (by decide) rfl (fun ls hl => ?_)
            refine lv_goto (tgt := 2) hx hb dX7_hasOpenTask_45 (by decide) ?_
            have hq2 : noTk S jm (n + 1) = true := by simp [noTk, hq, c_30, c_37]
            exact ih (n + 1) (by omega) hq2 (by omega) _ _ _ X (lv_sub hl [0, 2, 3] rfl)
          · refine lv_iconst (v := 1) hx hb dX7_hasOpenTask_40 (by decide) ?_
            have hf : noTk S jm (n + 1) = false := by simp [noTk, c_30, c_37]
            exact k_iret Z X hr hlocks rfl (Nat.le_of_ble_eq_true rfl) (Nat.le_of_ble_eq_true rfl) dX7_hasOpenTask_41 ⟨bI_t (by rw [noTk_m hf (by omega)]; rfl), rfl, rfl⟩
  exact LOOP_2 ((S.2 0 3) + 1) 0 (by omega) rfl (by omega) _ _ _ X (lv_sub hl [0, 1, 2] rfl)
theorem dX7_hasReplyLeft_0 : decode cX7_hasReplyLeft 0 = .ok (.iconst 0, 1) := by decide +kernel
theorem dX7_hasReplyLeft_1 : decode cX7_hasReplyLeft 1 = .ok (.istore_n 2, 1) := by decide +kernel
theorem dX7_hasReplyLeft_2 : decode cX7_hasReplyLeft 2 = .ok (.iload_n 2, 1) := by decide +kernel
theorem dX7_hasReplyLeft_3 : decode cX7_hasReplyLeft 3 = .ok (.aload_n 0, 1) := by decide +kernel
theorem dX7_hasReplyLeft_4 : decode cX7_hasReplyLeft 4 = .ok (.getfield 28, 3) := by decide +kernel
theorem dX7_hasReplyLeft_7 : decode cX7_hasReplyLeft 7 = .ok (.invokevirtual 59, 3) := by decide +kernel
theorem dX7_hasReplyLeft_10 : decode cX7_hasReplyLeft 10 = .ok (.if_icmp .ge 38, 3) := by decide +kernel
theorem dX7_hasReplyLeft_13 : decode cX7_hasReplyLeft 13 = .ok (.aload_n 0, 1) := by decide +kernel
theorem dX7_hasReplyLeft_14 : decode cX7_hasReplyLeft 14 = .ok (.getfield 28, 3) := by decide +kernel
theorem dX7_hasReplyLeft_17 : decode cX7_hasReplyLeft 17 = .ok (.iload_n 2, 1) := by decide +kernel
theorem dX7_hasReplyLeft_18 : decode cX7_hasReplyLeft 18 = .ok (.invokevirtual 210, 3) := by decide +kernel
theorem dX7_hasReplyLeft_21 : decode cX7_hasReplyLeft 21 = .ok (.checkcast 112, 3) := by decide +kernel
theorem dX7_hasReplyLeft_24 : decode cX7_hasReplyLeft 24 = .ok (.astore_n 3, 1) := by decide +kernel
theorem dX7_hasReplyLeft_25 : decode cX7_hasReplyLeft 25 = .ok (.aload_n 3, 1) := by decide +kernel
theorem dX7_hasReplyLeft_26 : decode cX7_hasReplyLeft 26 = .ok (.getfield 221, 3) := by decide +kernel
theorem dX7_hasReplyLeft_29 : decode cX7_hasReplyLeft 29 = .ok (.iload_n 1, 1) := by decide +kernel
theorem dX7_hasReplyLeft_30 : decode cX7_hasReplyLeft 30 = .ok (.if_icmp .ne 12, 3) := by decide +kernel
theorem dX7_hasReplyLeft_33 : decode cX7_hasReplyLeft 33 = .ok (.aload_n 3, 1) := by decide +kernel
theorem dX7_hasReplyLeft_34 : decode cX7_hasReplyLeft 34 = .ok (.getfield 218, 3) := by decide +kernel
theorem dX7_hasReplyLeft_37 : decode cX7_hasReplyLeft 37 = .ok (.ifCond .ne 5, 3) := by decide +kernel
theorem dX7_hasReplyLeft_40 : decode cX7_hasReplyLeft 40 = .ok (.iconst 1, 1) := by decide +kernel
theorem dX7_hasReplyLeft_41 : decode cX7_hasReplyLeft 41 = .ok (.ireturn, 1) := by decide +kernel
theorem dX7_hasReplyLeft_42 : decode cX7_hasReplyLeft 42 = .ok (.iinc 2 1, 3) := by decide +kernel
theorem dX7_hasReplyLeft_45 : decode cX7_hasReplyLeft 45 = .ok (.goto (-43), 3) := by decide +kernel
theorem dX7_hasReplyLeft_48 : decode cX7_hasReplyLeft 48 = .ok (.iconst 0, 1) := by decide +kernel
theorem dX7_hasReplyLeft_49 : decode cX7_hasReplyLeft 49 = .ok (.ireturn, 1) := by decide +kernel
set_option maxHeartbeats 4000000 in
set_option maxRecDepth 100000 in
theorem c_X7_hasReplyLeft (l : Launch) (E : State) (G : kG) (S T : kSt) (o : Int64) (ad : kAd) (jm : Nat) (hm : jm < 2 ^ 31) (hS : okN S) (hL : okL S) : Met l yX7_hasReplyLeft (.code yX7_hasReplyLeft cX7_hasReplyLeft 4 (some .boolean) :: wsL_law) ({ frames := 6, cells := 0, slots := 0, locals := 150 } : Room) (va_Pc [.ref (ad 0 0), .int (nI jm)] (kPre E G ad (cto G S T o ad))) (kQi E G (fun r ad1 ct1 => r = bI (!noRp S jm (S.2 0 1)) ∧ ad = ad1 ∧ ct1 = cto G S T o ad)) 0 0 (kB E.heap.size) := by
  refine Met.ofW (cc := cX7_hasReplyLeft) (maxL := 4) (ret := (some .boolean)) (by decide) rfl ?_
  intro p e s m args below meth c s₁ B hml hv
  obtain ⟨rfl, hM, hK, hW0⟩ := hv
  have hlocks := B.notSynchronized
  have hr := B.returns
  have Z : kZ p m c cX7_hasReplyLeft 4 s _ wsL_law RX7 E G := ⟨⟨B.exec, B.bytes, hml, findClass_of_methodNamed B.named, fun w h => atoms_spec (ws := .code yX7_hasReplyLeft cX7_hasReplyLeft 4 (some .boolean) :: wsL_law) B.pre w (List.mem_cons_of_mem _ h)⟩, hM, hK⟩
  have hx := Z.1.1
  have hb := Z.1.2.1
  have X := kX.of hW0
  have hl := lv_entry ([.ref (ad 0 0), .int (nI jm)]) (n := 4) (Nat.le_of_ble_eq_true rfl)
  rw [lg_entry_eq]
  generalize (lg_sl ([.ref (ad 0 0), .int (nI jm)]) ++ List.replicate (4 - (lg_sl ([.ref (ad 0 0), .int (nI jm)])).length) Slot.unset).toArray = ls at hl ⊢
  have hl : lv_has ls 4 [(0, .ref (ad 0 0)), (1, .int (nI jm))] := hl
  obtain ⟨hT1, hT2, hT3, hT4, hT5, hT6, hT7⟩ := id hS
  refine lv_iconst (v := 0) hx hb dX7_hasReplyLeft_0 (by decide) ?_
  refine lv_istore_n (lv' := [(2, .int 0), (0, .ref (ad 0 0)), (1, .int (nI jm))]) hx hb dX7_hasReplyLeft_1 rfl hl (by decide) rfl (fun ls hl => ?_)
  have LOOP_2 : ∀ (d : Nat) (n : Nat), n ≤ (S.2 0 1) → noRp S jm n = true → (S.2 0 1) < n + d → ∀ (H : Heap) (locs : List Loc) (ls : Array Slot), kX E G s H locs ad (cto G S T o ad) → lv_has ls 4 [(2, .int (nI n)), (0, .ref (ad 0 0)), (1, .int (nI jm))] → W p l e (headSpec (Cond.code yX7_hasReplyLeft cX7_hasReplyLeft 4 (some .boolean) :: wsL_law) ({ frames := 6, cells := 0, slots := 0, locals := 150 } : Room)).room s m ([.ref (ad 0 0), .int (nI jm)] : List Value).toArray below meth c H locs 0 0 (MQ below (kQi E G (fun r ad1 ct1 => r = bI (!noRp S jm (S.2 0 1)) ∧ ad = ad1 ∧ ct1 = cto G S T o ad)) ([.ref (ad 0 0), .int (nI jm)] : List Value).toArray s 0 0 (kB E.heap.size)) (F0 m 2 ls []) := by
    intro d
    induction d with
    | zero => intro n h1 hq h2; intros; exact absurd h2 (by omega)
    | succ d ih =>
      intro n h1 hq h2 H locs ls X hl
      refine lv_iload_n hx hb dX7_hasReplyLeft_2 rfl (lv_at hl 0 rfl) ?_
      refine lv_aload_n hx hb dX7_hasReplyLeft_3 rfl (lv_at hl 1 rfl) ?_
      refine k_get (index := 28) (j := 2) (ad := ad) (k := 0) (i := 0) Z X ct_0 inlX7 rfl (by decide) (inU_1 _ (List.mem_of_getElem? (i := 23) rfl)) (fun _ h => h) (v := .ref (ad 1 2)) rfl dX7_hasReplyLeft_4 ?_
      refine k_Ri X (k_runV (As := []) (rest := [.int (nI n)]) Z X (c_Jx4a65c_size_8abf5 l E G ad (cto G S T o ad) 2 _ _ (nI (S.2 0 1)) (ct_1 (by decide))) (k_cwV 0 Z.1.2.2.2.2 (inU_6 _ (List.mem_of_getElem? (i := 21) rfl)) (inU_6 _ (List.mem_of_getElem? (i := 22) rfl)) (inU_6 _ (List.mem_of_getElem? (i := 23) rfl)) (inU_1 _ (List.mem_of_getElem? (i := 17) rfl)) (inU_7 _ (List.mem_of_getElem? (i := 0) rfl)) rfl rfl (by decide +kernel) ⟨Nat.le_of_ble_eq_true rfl, Nat.le_of_ble_eq_true rfl⟩) (k_recv Z X (ct_1 (by decide)) rfl) rfl hl.1 rfl (Nat.le_of_ble_eq_true rfl) dX7_hasReplyLeft_7 ⟨(by first | exact Nat.le_of_ble_eq_true rfl | (show _ ≤ (_ : Nat); simp only [headSpec]; omega)), (by first | exact Nat.le_of_ble_eq_true rfl | (show _ ≤ (_ : Nat); simp only [headSpec]; omega))⟩) (fun r_7 ad1 ct1 H locs hp X => ?_)
      obtain ⟨rfl, ha_, hb_⟩ := hp
      rw [← ha_, hb_] at X
      refine lv_icmp_ge (tgt := 48) hx hb dX7_hasReplyLeft_10 (by decide) (fun c_10 => ?_) (fun c_10 => ?_)
      · have c_10 : (S.2 0 1) ≤ n := (nI_leI (a := (S.2 0 1)) (b := n) (by omega) (by omega)).mp c_10
        refine lv_iconst (v := 0) hx hb dX7_hasReplyLeft_48 (by decide) ?_
        have hn : n = (S.2 0 1) := by omega
        subst hn
        exact k_iret Z X hr hlocks rfl (Nat.le_of_ble_eq_true rfl) (Nat.le_of_ble_eq_true rfl) dX7_hasReplyLeft_49 ⟨bI_f (by rw [hq]; rfl), rfl, rfl⟩
      · have c_10 : ¬ (S.2 0 1) ≤ n := fun h => c_10 ((nI_leI (a := (S.2 0 1)) (b := n) (by omega) (by omega)).mpr h)
        refine lv_aload_n hx hb dX7_hasReplyLeft_13 rfl (lv_at hl 1 rfl) ?_
        refine k_get (index := 28) (j := 2) (ad := ad) (k := 0) (i := 0) Z X ct_0 inlX7 rfl (by decide) (inU_1 _ (List.mem_of_getElem? (i := 23) rfl)) (fun _ h => h) (v := .ref (ad 1 2)) rfl dX7_hasReplyLeft_14 ?_
        refine lv_iload_n hx hb dX7_hasReplyLeft_17 rfl (lv_at hl 0 rfl) ?_
        refine k_Rq X (k_runV (As := [.int (nI n)]) (rest := []) Z X (c_getS l E G S T o ad 2 n (by decide) hL (by show _ < (_ : Nat); simp only [lcnt]; omega)) (k_cwV 1 Z.1.2.2.2.2 (inU_8 _ (List.mem_of_getElem? (i := 1) rfl)) (inU_8 _ (List.mem_of_getElem? (i := 2) rfl)) (inU_8 _ (List.mem_of_getElem? (i := 3) rfl)) (inU_1 _ (List.mem_of_getElem? (i := 17) rfl)) (inU_8 _ (List.mem_of_getElem? (i := 4) rfl)) rfl rfl (by decide +kernel) ⟨Nat.le_of_ble_eq_true rfl, Nat.le_of_ble_eq_true rfl⟩) (k_recv Z X (ct_1 (by decide)) rfl) rfl hl.1 rfl (Nat.le_of_ble_eq_true rfl) dX7_hasReplyLeft_18 ⟨(by first | exact Nat.le_of_ble_eq_true rfl | (show _ ≤ (_ : Nat); simp only [headSpec]; omega)), (by first | exact Nat.le_of_ble_eq_true rfl | (show _ ≤ (_ : Nat); simp only [headSpec]; omega))⟩) (fun r_18 ad1 ct1 H locs hp X => ?_)
        obtain ⟨rfl, ha_, hb_⟩ := hp
        rw [← ha_, hb_] at X
        refine k_cast (r := (RX3, TX3, 8)) Z X (ct_5 (by first | assumption | omega | decide)) rfl (inU_11 _ (List.mem_of_getElem? (i := 8) rfl)) dX7_hasReplyLeft_21 ?_
        refine lv_astore_n (lv' := [(3, .ref (ad 5 n)), (2, .int (nI n)), (0, .ref (ad 0 0)), (1, .int (nI jm))]) hx hb dX7_hasReplyLeft_24 rfl hl (by decide) rfl (fun ls hl => ?_)
        refine lv_aload_n hx hb dX7_hasReplyLeft_25 rfl (lv_at hl 0 rfl) ?_
        refine k_get (index := 221) (j := 3) (ad := ad) (k := 5) (i := n) Z X (ct_5 (by first | assumption | omega | decide)) inlX3 rfl (by decide) (inU_25 _ (List.mem_of_getElem? (i := 3) rfl)) (fun _ h => h) (v := .int (S.1 5 n)) rfl dX7_hasReplyLeft_26 ?_
        refine lv_iload_n hx hb dX7_hasReplyLeft_29 rfl (lv_at hl 3 rfl) ?_
        refine lv_icmp_ne (tgt := 42) hx hb dX7_hasReplyLeft_30 (by decide) (fun c_30 => ?_) (fun c_30 => ?_)
        · refine lv_iinc (v := (nI (n + 1))) (lv' := [(2, .int (nI (n + 1))), (3, .ref (ad 5 n)), (0, .ref (ad 0 0)), (1, .int (nI jm))]) hx hb dX7_hasReplyLeft_42 hl (k := 1) rfl (nI_1 _) (by decide) rfl (fun ls hl => ?_)
          refine lv_goto (tgt := 2) hx hb dX7_hasReplyLeft_45 (by decide) ?_
          have hq2 : noRp S jm (n + 1) = true := by simp [noRp, hq, c_30]
          exact ih (n + 1) (by omega) hq2 (by omega) _ _ _ X (lv_sub hl [0, 2, 3] rfl)
        · refine lv_aload_n hx hb dX7_hasReplyLeft_33 rfl (lv_at hl 0 rfl) ?_
          refine k_get (index := 218) (j := 7) (ad := ad) (k := 5) (i := n) Z X (ct_5 (by first | assumption | omega | decide)) inlX3 rfl (by decide) (inU_11 _ (List.mem_of_getElem? (i := 12) rfl)) (fun _ h => h) (v := .int (S.1 8 n)) rfl dX7_hasReplyLeft_34 ?_
          refine lv_if_ne (tgt := 42) hx hb dX7_hasReplyLeft_37 (by decide) (fun c_37 => ?_) (fun c_37 => ?_)
          · refine lv_iinc (v := (nI (n + 1))) (lv' := [(2, .int (nI (n + 1))), (3, .ref (ad 5 n)), (0, .ref (ad 0 0)), (1, .int (nI jm))]) hx hb dX7_hasReplyLeft_42 hl (k := 1) rfl (nI_1 _) (by decide) rfl (fun ls hl => ?_)
            refine lv_goto (tgt := 2) hx hb dX7_hasReplyLeft_45 (by decide) ?_
            have hq2 : noRp S jm (n + 1) = true := by simp [noRp, hq, c_30, c_37]
            exact ih (n + 1) (by omega) hq2 (by omega) _ _ _ X (lv_sub hl [0, 2, 3] rfl)
          · refine lv_iconst (v := 1) hx hb dX7_hasReplyLeft_40 (by decide) ?_
            have hf : noRp S jm (n + 1) = false := by simp [noRp, c_30, c_37]
            exact k_iret Z X hr hlocks rfl (Nat.le_of_ble_eq_true rfl) (Nat.le_of_ble_eq_true rfl) dX7_hasReplyLeft_41 ⟨bI_t (by rw [noRp_m hf (by omega)]; rfl), rfl, rfl⟩
  exact LOOP_2 ((S.2 0 1) + 1) 0 (by omega) rfl (by omega) _ _ _ X (lv_sub hl [0, 1, 2] rfl)
theorem dX7_mayBeArchived_0 : decode cX7_mayBeArchived 0 = .ok (.aload_n 1, 1) := by decide +kernel
theorem dX7_mayBeArchived_1 : decode cX7_mayBeArchived 1 = .ok (.getfield 218, 3) := by decide +kernel
theorem dX7_mayBeArchived_4 : decode cX7_mayBeArchived 4 = .ok (.ifCond .ne 55, 3) := by decide +kernel
theorem dX7_mayBeArchived_7 : decode cX7_mayBeArchived 7 = .ok (.aload_n 0, 1) := by decide +kernel
theorem dX7_mayBeArchived_8 : decode cX7_mayBeArchived 8 = .ok (.getfield 51, 3) := by decide +kernel
theorem dX7_mayBeArchived_11 : decode cX7_mayBeArchived 11 = .ok (.aload_n 1, 1) := by decide +kernel
theorem dX7_mayBeArchived_12 : decode cX7_mayBeArchived 12 = .ok (.getfield 224, 3) := by decide +kernel
theorem dX7_mayBeArchived_15 : decode cX7_mayBeArchived 15 = .ok (.isub, 1) := by decide +kernel
theorem dX7_mayBeArchived_16 : decode cX7_mayBeArchived 16 = .ok (.sipush 720, 3) := by decide +kernel
theorem dX7_mayBeArchived_19 : decode cX7_mayBeArchived 19 = .ok (.if_icmp .lt 40, 3) := by decide +kernel
theorem dX7_mayBeArchived_22 : decode cX7_mayBeArchived 22 = .ok (.aload_n 0, 1) := by decide +kernel
theorem dX7_mayBeArchived_23 : decode cX7_mayBeArchived 23 = .ok (.aload_n 1, 1) := by decide +kernel
theorem dX7_mayBeArchived_24 : decode cX7_mayBeArchived 24 = .ok (.getfield 127, 3) := by decide +kernel
theorem dX7_mayBeArchived_27 : decode cX7_mayBeArchived 27 = .ok (.invokevirtual 314, 3) := by decide +kernel
theorem dX7_mayBeArchived_30 : decode cX7_mayBeArchived 30 = .ok (.ifCond .ne 29, 3) := by decide +kernel
theorem dX7_mayBeArchived_33 : decode cX7_mayBeArchived 33 = .ok (.aload_n 0, 1) := by decide +kernel
theorem dX7_mayBeArchived_34 : decode cX7_mayBeArchived 34 = .ok (.aload_n 1, 1) := by decide +kernel
theorem dX7_mayBeArchived_35 : decode cX7_mayBeArchived 35 = .ok (.getfield 127, 3) := by decide +kernel
theorem dX7_mayBeArchived_38 : decode cX7_mayBeArchived 38 = .ok (.invokevirtual 317, 3) := by decide +kernel
theorem dX7_mayBeArchived_41 : decode cX7_mayBeArchived 41 = .ok (.ifCond .ne 18, 3) := by decide +kernel
theorem dX7_mayBeArchived_44 : decode cX7_mayBeArchived 44 = .ok (.aload_n 0, 1) := by decide +kernel
theorem dX7_mayBeArchived_45 : decode cX7_mayBeArchived 45 = .ok (.aload_n 1, 1) := by decide +kernel
theorem dX7_mayBeArchived_46 : decode cX7_mayBeArchived 46 = .ok (.getfield 127, 3) := by decide +kernel
theorem dX7_mayBeArchived_49 : decode cX7_mayBeArchived 49 = .ok (.invokevirtual 320, 3) := by decide +kernel
theorem dX7_mayBeArchived_52 : decode cX7_mayBeArchived 52 = .ok (.ifCond .ne 7, 3) := by decide +kernel
theorem dX7_mayBeArchived_55 : decode cX7_mayBeArchived 55 = .ok (.iconst 1, 1) := by decide +kernel
theorem dX7_mayBeArchived_56 : decode cX7_mayBeArchived 56 = .ok (.goto 4, 3) := by decide +kernel
theorem dX7_mayBeArchived_59 : decode cX7_mayBeArchived 59 = .ok (.iconst 0, 1) := by decide +kernel
theorem dX7_mayBeArchived_60 : decode cX7_mayBeArchived 60 = .ok (.ireturn, 1) := by decide +kernel
set_option maxHeartbeats 4000000 in
set_option maxRecDepth 100000 in
theorem c_X7_mayBeArchived (l : Launch) (E : State) (G : kG) (S T : kSt) (o : Int64) (ad : kAd) (jm : Nat) (hm : jm < S.2 0 1) (hS : okN S) (hL : okL S) : Met l yX7_mayBeArchived (.code yX7_mayBeArchived cX7_mayBeArchived 2 (some .boolean) :: wsL_law) ({ frames := 8, cells := 0, slots := 0, locals := 200 } : Room) (va_Pc [.ref (ad 0 0), .ref (ad 5 jm)] (kPre E G ad (cto G S T o ad))) (kQi E G (fun r ad1 ct1 => r = bI (canA S jm) ∧ ad = ad1 ∧ ct1 = cto G S T o ad)) 0 0 (kB E.heap.size) := by
  refine Met.ofW (cc := cX7_mayBeArchived) (maxL := 2) (ret := (some .boolean)) (by decide) rfl ?_
  intro p e s m args below meth c s₁ B hml hv
  obtain ⟨rfl, hM, hK, hW0⟩ := hv
  have hlocks := B.notSynchronized
  have hr := B.returns
  have Z : kZ p m c cX7_mayBeArchived 2 s _ wsL_law RX7 E G := ⟨⟨B.exec, B.bytes, hml, findClass_of_methodNamed B.named, fun w h => atoms_spec (ws := .code yX7_mayBeArchived cX7_mayBeArchived 2 (some .boolean) :: wsL_law) B.pre w (List.mem_cons_of_mem _ h)⟩, hM, hK⟩
  have hx := Z.1.1
  have hb := Z.1.2.1
  have X := kX.of hW0
  have hl := lv_entry ([.ref (ad 0 0), .ref (ad 5 jm)]) (n := 2) (Nat.le_of_ble_eq_true rfl)
  rw [lg_entry_eq]
  generalize (lg_sl ([.ref (ad 0 0), .ref (ad 5 jm)]) ++ List.replicate (2 - (lg_sl ([.ref (ad 0 0), .ref (ad 5 jm)])).length) Slot.unset).toArray = ls at hl ⊢
  have hl : lv_has ls 2 [(0, .ref (ad 0 0)), (1, .ref (ad 5 jm))] := hl
  obtain ⟨hT1, hT2, hT3, hT4, hT5, hT6, hT7⟩ := id hS
  refine lv_aload_n hx hb dX7_mayBeArchived_0 rfl (lv_at hl 1 rfl) ?_
  refine k_get (index := 218) (j := 7) (ad := ad) (k := 5) (i := jm) Z X (ct_5 (by first | assumption | omega | decide)) inlX3 rfl (by decide) (inU_11 _ (List.mem_of_getElem? (i := 12) rfl)) (fun _ h => h) (v := .int (S.1 8 jm)) rfl dX7_mayBeArchived_1 ?_
  refine lv_if_ne (tgt := 59) hx hb dX7_mayBeArchived_4 (by decide) (fun c_4 => ?_) (fun c_4 => ?_)
  · refine lv_iconst (v := 0) hx hb dX7_mayBeArchived_59 (by decide) ?_
    exact k_iret Z X hr hlocks rfl (Nat.le_of_ble_eq_true rfl) (Nat.le_of_ble_eq_true rfl) dX7_mayBeArchived_60 ⟨bI_f (by simp [canA, c_4]), rfl, rfl⟩
  · refine lv_aload_n hx hb dX7_mayBeArchived_7 rfl (lv_at hl 0 rfl) ?_
    refine k_get (index := 51) (j := 7) (ad := ad) (k := 0) (i := 0) Z X ct_0 inlX7 rfl (by decide) (inU_2 _ (List.mem_of_getElem? (i := 10) rfl)) (fun _ h => h) (v := .int (S.1 0 0)) rfl dX7_mayBeArchived_8 ?_
    refine lv_aload_n hx hb dX7_mayBeArchived_11 rfl (lv_at hl 1 rfl) ?_
    refine k_get (index := 224) (j := 4) (ad := ad) (k := 5) (i := jm) Z X (ct_5 (by first | assumption | omega | decide)) inlX3 rfl (by decide) (inU_24 _ (List.mem_of_getElem? (i := 14) rfl)) (fun _ h => h) (v := .int (S.1 6 jm)) rfl dX7_mayBeArchived_12 ?_
    refine lv_isub hx hb dX7_mayBeArchived_15 ?_
    refine lv_sipush (v := 720) hx hb dX7_mayBeArchived_16 (by decide) ?_
    refine lv_icmp_lt (tgt := 59) hx hb dX7_mayBeArchived_19 (by decide) (fun c_19 => ?_) (fun c_19 => ?_)
    · refine lv_iconst (v := 0) hx hb dX7_mayBeArchived_59 (by decide) ?_
      exact k_iret Z X hr hlocks rfl (Nat.le_of_ble_eq_true rfl) (Nat.le_of_ble_eq_true rfl) dX7_mayBeArchived_60 ⟨bI_f (by simp [canA, c_4, c_19]), rfl, rfl⟩
    · refine lv_aload_n hx hb dX7_mayBeArchived_22 rfl (lv_at hl 0 rfl) ?_
      refine lv_aload_n hx hb dX7_mayBeArchived_23 rfl (lv_at hl 1 rfl) ?_
      refine k_get (index := 127) (j := 0) (ad := ad) (k := 5) (i := jm) Z X (ct_5 (by first | assumption | omega | decide)) inlX3 rfl (by decide) (inU_11 _ (List.mem_of_getElem? (i := 3) rfl)) (fun _ h => h) (v := .int (nI jm)) rfl dX7_mayBeArchived_24 ?_
      refine k_Ri X (k_runV (As := [.int (nI jm)]) (rest := []) Z X (c_X7_hasStandingSpend l E G S T o ad jm (by omega) hS hL) (k_cwV 1 Z.1.2.2.2.2 (inU_24 _ (List.mem_of_getElem? (i := 15) rfl)) (inU_24 _ (List.mem_of_getElem? (i := 16) rfl)) (inU_24 _ (List.mem_of_getElem? (i := 17) rfl)) (inU_1 _ (List.mem_of_getElem? (i := 2) rfl)) (inU_24 _ (List.mem_of_getElem? (i := 18) rfl)) rfl rfl (by decide +kernel) ⟨Nat.le_of_ble_eq_true rfl, Nat.le_of_ble_eq_true rfl⟩) (k_recv Z X ct_0 rfl) rfl hl.1 rfl (Nat.le_of_ble_eq_true rfl) dX7_mayBeArchived_27 ⟨(by first | exact Nat.le_of_ble_eq_true rfl | (show _ ≤ (_ : Nat); simp only [headSpec]; omega)), (by first | exact Nat.le_of_ble_eq_true rfl | (show _ ≤ (_ : Nat); simp only [headSpec]; omega))⟩) (fun r_27 ad1 ct1 H locs hp X => ?_)
      obtain ⟨rfl, ha_, hb_⟩ := hp
      rw [← ha_, hb_] at X
      refine lv_if_ne (tgt := 59) hx hb dX7_mayBeArchived_30 (by decide) (fun c_30 => ?_) (fun c_30 => ?_)
      · have c_30 : noSp S jm (S.2 0 2) = false := by have h := bI_1 c_30; simpa using h
        refine lv_iconst (v := 0) hx hb dX7_mayBeArchived_59 (by decide) ?_
        exact k_iret Z X hr hlocks rfl (Nat.le_of_ble_eq_true rfl) (Nat.le_of_ble_eq_true rfl) dX7_mayBeArchived_60 ⟨bI_f (by simp [canA, c_4, c_19, c_30]), rfl, rfl⟩
      · have c_30 : noSp S jm (S.2 0 2) = true := by have h := bI_0 c_30; simpa using h
        refine lv_aload_n hx hb dX7_mayBeArchived_33 rfl (lv_at hl 0 rfl) ?_
        refine lv_aload_n hx hb dX7_mayBeArchived_34 rfl (lv_at hl 1 rfl) ?_
        refine k_get (index := 127) (j := 0) (ad := ad) (k := 5) (i := jm) Z X (ct_5 (by first | assumption | omega | decide)) inlX3 rfl (by decide) (inU_11 _ (List.mem_of_getElem? (i := 3) rfl)) (fun _ h => h) (v := .int (nI jm)) rfl dX7_mayBeArchived_35 ?_
        refine k_Ri X (k_runV (As := [.int (nI jm)]) (rest := []) Z X (c_X7_hasOpenTask l E G S T o ad jm (by omega) hS hL) (k_cwV 1 Z.1.2.2.2.2 (inU_24 _ (List.mem_of_getElem? (i := 19) rfl)) (inU_24 _ (List.mem_of_getElem? (i := 20) rfl)) (inU_24 _ (List.mem_of_getElem? (i := 21) rfl)) (inU_1 _ (List.mem_of_getElem? (i := 2) rfl)) (inU_24 _ (List.mem_of_getElem? (i := 22) rfl)) rfl rfl (by decide +kernel) ⟨Nat.le_of_ble_eq_true rfl, Nat.le_of_ble_eq_true rfl⟩) (k_recv Z X ct_0 rfl) rfl hl.1 rfl (Nat.le_of_ble_eq_true rfl) dX7_mayBeArchived_38 ⟨(by first | exact Nat.le_of_ble_eq_true rfl | (show _ ≤ (_ : Nat); simp only [headSpec]; omega)), (by first | exact Nat.le_of_ble_eq_true rfl | (show _ ≤ (_ : Nat); simp only [headSpec]; omega))⟩) (fun r_38 ad1 ct1 H locs hp X => ?_)
        obtain ⟨rfl, ha_, hb_⟩ := hp
        rw [← ha_, hb_] at X
        refine lv_if_ne (tgt := 59) hx hb dX7_mayBeArchived_41 (by decide) (fun c_41 => ?_) (fun c_41 => ?_)
        · have c_41 : noTk S jm (S.2 0 3) = false := by have h := bI_1 c_41; simpa using h
          refine lv_iconst (v := 0) hx hb dX7_mayBeArchived_59 (by decide) ?_
          exact k_iret Z X hr hlocks rfl (Nat.le_of_ble_eq_true rfl) (Nat.le_of_ble_eq_true rfl) dX7_mayBeArchived_60 ⟨bI_f (by simp [canA, c_4, c_19, c_30, c_41]), rfl, rfl⟩
        · have c_41 : noTk S jm (S.2 0 3) = true := by have h := bI_0 c_41; simpa using h
          refine lv_aload_n hx hb dX7_mayBeArchived_44 rfl (lv_at hl 0 rfl) ?_
          refine lv_aload_n hx hb dX7_mayBeArchived_45 rfl (lv_at hl 1 rfl) ?_
          refine k_get (index := 127) (j := 0) (ad := ad) (k := 5) (i := jm) Z X (ct_5 (by first | assumption | omega | decide)) inlX3 rfl (by decide) (inU_11 _ (List.mem_of_getElem? (i := 3) rfl)) (fun _ h => h) (v := .int (nI jm)) rfl dX7_mayBeArchived_46 ?_
          refine k_Ri X (k_runV (As := [.int (nI jm)]) (rest := []) Z X (c_X7_hasReplyLeft l E G S T o ad jm (by omega) hS hL) (k_cwV 1 Z.1.2.2.2.2 (inU_24 _ (List.mem_of_getElem? (i := 23) rfl)) (inU_25 _ (List.mem_of_getElem? (i := 0) rfl)) (inU_25 _ (List.mem_of_getElem? (i := 1) rfl)) (inU_1 _ (List.mem_of_getElem? (i := 2) rfl)) (inU_25 _ (List.mem_of_getElem? (i := 2) rfl)) rfl rfl (by decide +kernel) ⟨Nat.le_of_ble_eq_true rfl, Nat.le_of_ble_eq_true rfl⟩) (k_recv Z X ct_0 rfl) rfl hl.1 rfl (Nat.le_of_ble_eq_true rfl) dX7_mayBeArchived_49 ⟨(by first | exact Nat.le_of_ble_eq_true rfl | (show _ ≤ (_ : Nat); simp only [headSpec]; omega)), (by first | exact Nat.le_of_ble_eq_true rfl | (show _ ≤ (_ : Nat); simp only [headSpec]; omega))⟩) (fun r_49 ad1 ct1 H locs hp X => ?_)
          obtain ⟨rfl, ha_, hb_⟩ := hp
          rw [← ha_, hb_] at X
          refine lv_if_ne (tgt := 59) hx hb dX7_mayBeArchived_52 (by decide) (fun c_52 => ?_) (fun c_52 => ?_)
          · have c_52 : noRp S jm (S.2 0 1) = false := by have h := bI_1 c_52; simpa using h
            refine lv_iconst (v := 0) hx hb dX7_mayBeArchived_59 (by decide) ?_
            exact k_iret Z X hr hlocks rfl (Nat.le_of_ble_eq_true rfl) (Nat.le_of_ble_eq_true rfl) dX7_mayBeArchived_60 ⟨bI_f (by simp [canA, c_4, c_19, c_30, c_41, c_52]), rfl, rfl⟩
          · have c_52 : noRp S jm (S.2 0 1) = true := by have h := bI_0 c_52; simpa using h
            refine lv_iconst (v := 1) hx hb dX7_mayBeArchived_55 (by decide) ?_
            refine lv_goto (tgt := 60) hx hb dX7_mayBeArchived_56 (by decide) ?_
            exact k_iret Z X hr hlocks rfl (Nat.le_of_ble_eq_true rfl) (Nat.le_of_ble_eq_true rfl) dX7_mayBeArchived_60 ⟨bI_t (by simp [canA, c_4, c_19, c_30, c_41, c_52]), rfl, rfl⟩
