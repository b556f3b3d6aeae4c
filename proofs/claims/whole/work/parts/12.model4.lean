theorem cl_nI {n : Nat} (h : n < 2 ^ 31) : cl (nI n) = n := nI_clamp h
theorem chan_inB (x : Int32) : inR x 0 5 = inB x 6 := by
  have h := inB_rng (u := x) (n := 6) (by decide)
  have e : nI 6 - 1 = (5 : Int32) := by decide
  rw [e] at h
  exact h
theorem dX8_user_0 : decode cX8_user 0 = .ok (.aload_n 0, 1) := by decide +kernel
theorem dX8_user_1 : decode cX8_user 1 = .ok (.iload_n 1, 1) := by decide +kernel
theorem dX8_user_2 : decode cX8_user 2 = .ok (.invokestatic 108, 3) := by decide +kernel
theorem dX8_user_5 : decode cX8_user 5 = .ok (.ifCond .ne 7, 3) := by decide +kernel
theorem dX8_user_8 : decode cX8_user 8 = .ok (.iconst 1, 1) := by decide +kernel
theorem dX8_user_9 : decode cX8_user 9 = .ok (.goto 17, 3) := by decide +kernel
theorem dX8_user_12 : decode cX8_user 12 = .ok (.aload_n 0, 1) := by decide +kernel
theorem dX8_user_13 : decode cX8_user 13 = .ok (.getfield 81, 3) := by decide +kernel
theorem dX8_user_16 : decode cX8_user 16 = .ok (.bipush 12, 2) := by decide +kernel
theorem dX8_user_18 : decode cX8_user 18 = .ok (.if_icmp .ne 7, 3) := by decide +kernel
theorem dX8_user_21 : decode cX8_user 21 = .ok (.iconst 2, 1) := by decide +kernel
theorem dX8_user_22 : decode cX8_user 22 = .ok (.goto 4, 3) := by decide +kernel
theorem dX8_user_25 : decode cX8_user 25 = .ok (.iconst 0, 1) := by decide +kernel
theorem dX8_user_26 : decode cX8_user 26 = .ok (.invokevirtual 111, 3) := by decide +kernel
theorem dX8_user_29 : decode cX8_user 29 = .ok (.ifCond .eq 5, 3) := by decide +kernel
theorem dX8_user_32 : decode cX8_user 32 = .ok (.iconst 0, 1) := by decide +kernel
theorem dX8_user_33 : decode cX8_user 33 = .ok (.ireturn, 1) := by decide +kernel
theorem dX8_user_34 : decode cX8_user 34 = .ok (.aload_n 0, 1) := by decide +kernel
theorem dX8_user_35 : decode cX8_user 35 = .ok (.getfield 7, 3) := by decide +kernel
theorem dX8_user_38 : decode cX8_user 38 = .ok (.aload_n 0, 1) := by decide +kernel
theorem dX8_user_39 : decode cX8_user 39 = .ok (.getfield 81, 3) := by decide +kernel
theorem dX8_user_42 : decode cX8_user 42 = .ok (.iload_n 1, 1) := by decide +kernel
theorem dX8_user_43 : decode cX8_user 43 = .ok (.iastore, 1) := by decide +kernel
theorem dX8_user_44 : decode cX8_user 44 = .ok (.aload_n 0, 1) := by decide +kernel
theorem dX8_user_45 : decode cX8_user 45 = .ok (.getfield 13, 3) := by decide +kernel
theorem dX8_user_48 : decode cX8_user 48 = .ok (.aload_n 0, 1) := by decide +kernel
theorem dX8_user_49 : decode cX8_user 49 = .ok (.getfield 81, 3) := by decide +kernel
theorem dX8_user_52 : decode cX8_user 52 = .ok (.iconst (-1), 1) := by decide +kernel
theorem dX8_user_53 : decode cX8_user 53 = .ok (.iastore, 1) := by decide +kernel
theorem dX8_user_54 : decode cX8_user 54 = .ok (.aload_n 0, 1) := by decide +kernel
theorem dX8_user_55 : decode cX8_user 55 = .ok (.dup, 1) := by decide +kernel
theorem dX8_user_56 : decode cX8_user 56 = .ok (.getfield 81, 3) := by decide +kernel
theorem dX8_user_59 : decode cX8_user 59 = .ok (.iconst 1, 1) := by decide +kernel
theorem dX8_user_60 : decode cX8_user 60 = .ok (.iadd, 1) := by decide +kernel
theorem dX8_user_61 : decode cX8_user 61 = .ok (.putfield 81, 3) := by decide +kernel
theorem dX8_user_64 : decode cX8_user 64 = .ok (.aload_n 0, 1) := by decide +kernel
theorem dX8_user_65 : decode cX8_user 65 = .ok (.getfield 81, 3) := by decide +kernel
theorem dX8_user_68 : decode cX8_user 68 = .ok (.iconst 1, 1) := by decide +kernel
theorem dX8_user_69 : decode cX8_user 69 = .ok (.isub, 1) := by decide +kernel
theorem dX8_user_70 : decode cX8_user 70 = .ok (.ireturn, 1) := by decide +kernel
set_option maxHeartbeats 4000000 in
set_option maxRecDepth 100000 in
theorem c_X8_user (l : Launch) (E : State) (G : kG) (S T : kSt) (o : Int64) (ad : kAd) (xr : Int32) (hT : okN T) : Met l yX8_user (.code yX8_user cX8_user 2 (some .int) :: wsL_law) ({ frames := 4, cells := 0, slots := 0, locals := 90 } : Room) (va_Pc [.ref (ad 16 0), .int xr] (kPre E G ad (cto G S T o ad))) (kQi E G (fun r ad1 ct1 => (cUser T xr = 0 → r = nI (T.2 0 0)) ∧ ad = ad1 ∧ ct1 = cto G S (if cUser T xr = 0 then oUser (sI T 24 0 0) xr else sI T 24 0 (cUser T xr)) o ad)) 0 0 (kB E.heap.size) := by
  refine Met.ofW (cc := cX8_user) (maxL := 2) (ret := (some .int)) (by decide) rfl ?_
  intro p e s m args below meth c s₁ B hml hv
  obtain ⟨rfl, hM, hK, hW0⟩ := hv
  have hlocks := B.notSynchronized
  have hr := B.returns
  have Z : kZ p m c cX8_user 2 s _ wsL_law RX8 E G := ⟨⟨B.exec, B.bytes, hml, findClass_of_methodNamed B.named, fun w h => atoms_spec (ws := .code yX8_user cX8_user 2 (some .int) :: wsL_law) B.pre w (List.mem_cons_of_mem _ h)⟩, hM, hK⟩
  have hx := Z.1.1
  have hb := Z.1.2.1
  have X := kX.of hW0
  have hl := lv_entry ([.ref (ad 16 0), .int xr]) (n := 2) (Nat.le_of_ble_eq_true rfl)
  rw [lg_entry_eq]
  generalize (lg_sl ([.ref (ad 16 0), .int xr]) ++ List.replicate (2 - (lg_sl ([.ref (ad 16 0), .int xr])).length) Slot.unset).toArray = ls at hl ⊢
  have hl : lv_has ls 2 [(0, .ref (ad 16 0)), (1, .int xr)] := hl
  have hT0 := hT
  obtain ⟨hT1, hT2, hT3, hT4, hT5, hT6, hT7⟩ := hT0
  refine lv_aload_n hx hb dX8_user_0 rfl (lv_at hl 0 rfl) ?_
  refine lv_iload_n hx hb dX8_user_1 rfl (lv_at hl 1 rfl) ?_
  refine k_Ri X (k_runS (As := [.int xr]) (rest := [.ref (ad 16 0)]) Z X (c_X8_isRole l E G S T o ad xr) (k_cwS 1 Z.1.2.2.2.2 (inU_8 _ (List.mem_of_getElem? (i := 20) rfl)) (inU_8 _ (List.mem_of_getElem? (i := 21) rfl)) (inU_1 _ (List.mem_of_getElem? (i := 5) rfl)) (inU_8 _ (List.mem_of_getElem? (i := 22) rfl)) rfl rfl (by decide +kernel) ⟨Nat.le_of_ble_eq_true rfl, Nat.le_of_ble_eq_true rfl⟩) rfl hl.1 rfl (Nat.le_of_ble_eq_true rfl) dX8_user_2 ⟨Nat.le_of_ble_eq_true rfl, Nat.le_of_ble_eq_true rfl⟩) (fun r_2 ad1 ct1 H locs hp X => ?_)
  obtain ⟨rfl, rfl, rfl⟩ := hp
  refine lv_if_ne (tgt := 12) hx hb dX8_user_5 (by decide) (fun c_5 => ?_) (fun c_5 => ?_)
  · have c_5 : (inR xr 0 3) = true := bI_1 c_5
    refine lv_aload_n hx hb dX8_user_12 rfl (lv_at hl 0 rfl) ?_
    refine k_get (index := 81) (j := 1) (ad := ad) (k := 16) (i := 0) Z X ct_16 inlX8 rfl (by decide) (inU_8 _ (List.mem_of_getElem? (i := 19) rfl)) (fun _ h => h) (v := .int (nI (T.2 0 0))) rfl dX8_user_13 ?_
    refine lv_bipush (v := 12) hx hb dX8_user_16 (by decide) ?_
    refine lv_icmp_ne (tgt := 25) hx hb dX8_user_18 (by decide) (fun c_18 => ?_) (fun c_18 => ?_)
    · have c_18 : ¬ (T.2 0 0) = 12 := fun h => c_18 ((nI_eq (a := (T.2 0 0)) (b := 12) (by omega) (by decide)).mpr h)
      refine lv_iconst (v := 0) hx hb dX8_user_25 (by decide) ?_
      refine k_Ri X (k_runV (As := [.int 0]) (rest := []) Z X (c_X8_fails l E G S T o ad 0) (k_cwV 1 Z.1.2.2.2.2 (inU_9 _ (List.mem_of_getElem? (i := 2) rfl)) (inU_9 _ (List.mem_of_getElem? (i := 3) rfl)) (inU_9 _ (List.mem_of_getElem? (i := 4) rfl)) (inU_1 _ (List.mem_of_getElem? (i := 5) rfl)) (inU_9 _ (List.mem_of_getElem? (i := 5) rfl)) rfl rfl (by decide +kernel) ⟨Nat.le_of_ble_eq_true rfl, Nat.le_of_ble_eq_true rfl⟩) (k_recv Z X ct_16 rfl) rfl hl.1 rfl (Nat.le_of_ble_eq_true rfl) dX8_user_26 ⟨Nat.le_of_ble_eq_true rfl, Nat.le_of_ble_eq_true rfl⟩) (fun r_26 ad1 ct1 H locs hp X => ?_)
      obtain ⟨rfl, rfl, rfl⟩ := hp
      refine lv_topi (fun x_26 e_26 => ?_)
      obtain rfl : x_26 = 0 := e_26.trans (by decide)
      refine lv_if_eq (tgt := 34) hx hb dX8_user_29 (by decide) (fun c_29 => ?_) (fun c_29 => ?_)
      · have hlt : T.2 0 0 < 12 := by omega
        refine lv_aload_n hx hb dX8_user_34 rfl (lv_at hl 0 rfl) ?_
        refine k_get (index := 7) (j := 2) (ad := ad) (k := 16) (i := 0) Z X ct_16 inlX8 rfl (by decide) (inU_6 _ (List.mem_of_getElem? (i := 6) rfl)) (fun _ h => h) (v := .ref (ad 17 0)) rfl dX8_user_35 ?_
        refine lv_aload_n hx hb dX8_user_38 rfl (lv_at hl 0 rfl) ?_
        refine k_get (index := 81) (j := 1) (ad := ad) (k := 16) (i := 0) Z X ct_16 inlX8 rfl (by decide) (inU_8 _ (List.mem_of_getElem? (i := 19) rfl)) (fun _ h => h) (v := .int (nI (T.2 0 0))) rfl dX8_user_39 ?_
        refine lv_iload_n hx hb dX8_user_42 rfl (lv_at hl 1 rfl) ?_
        refine k_ist (ad := ad) (k := 17) (i := 0) Z X ct_17_0 (vp_in_nI (by first | assumption | omega) (by decide)) dX8_user_43 (fun H locs X => ?_)
        have X : kX E G s H locs ad (cto G S (sI (sI T 24 0 0) 1 (T.2 0 0) xr) o ad) := X.eq (st_17_0 _ _ (by omega))
        refine lv_aload_n hx hb dX8_user_44 rfl (lv_at hl 0 rfl) ?_
        refine k_get (index := 13) (j := 3) (ad := ad) (k := 16) (i := 0) Z X ct_16 inlX8 rfl (by decide) (inU_6 _ (List.mem_of_getElem? (i := 7) rfl)) (fun _ h => h) (v := .ref (ad 17 1)) rfl dX8_user_45 ?_
        refine lv_aload_n hx hb dX8_user_48 rfl (lv_at hl 0 rfl) ?_
        refine k_get (index := 81) (j := 1) (ad := ad) (k := 16) (i := 0) Z X ct_16 inlX8 rfl (by decide) (inU_8 _ (List.mem_of_getElem? (i := 19) rfl)) (fun _ h => h) (v := .int (nI (T.2 0 0))) rfl dX8_user_49 ?_
        refine lv_iconst (v := (-1)) hx hb dX8_user_52 (by decide) ?_
        refine k_ist (ad := ad) (k := 17) (i := 1) Z X ct_17_1 (vp_in_nI (by first | assumption | omega) (by decide)) dX8_user_53 (fun H locs X => ?_)
        have X : kX E G s H locs ad (cto G S (sI (sI (sI T 24 0 0) 1 (T.2 0 0) xr) 2 (T.2 0 0) (-1)) o ad) := X.eq (st_17_1 _ _ (by omega))
        refine lv_aload_n hx hb dX8_user_54 rfl (lv_at hl 0 rfl) ?_
        refine lv_dup hx hb dX8_user_55 rfl ?_
        refine k_get (index := 81) (j := 1) (ad := ad) (k := 16) (i := 0) Z X ct_16 inlX8 rfl (by decide) (inU_8 _ (List.mem_of_getElem? (i := 19) rfl)) (fun _ h => h) (v := .int (nI (T.2 0 0))) rfl dX8_user_56 ?_
        refine lv_iconst (v := 1) hx hb dX8_user_59 (by decide) ?_
        refine lv_iadd hx hb dX8_user_60 ?_
        refine lv_topi (fun x_60 e_60 => ?_)
        obtain rfl : x_60 = nI (T.2 0 0 + 1) := e_60.trans (nI_1 _)
        refine k_put (index := 81) (j := 1) (k := 16) (i := 0) Z X ct_16 inlX8 tyX8_ok nmX8 rfl (by decide) (inU_8 _ (List.mem_of_getElem? (i := 19) rfl)) (fun _ h => h) rfl (Nat.le_of_ble_eq_true rfl) rfl rfl dX8_user_61 (fun H locs X => ?_)
        have X : kX E G s H locs ad (cto G S (sN (sI (sI (sI T 24 0 0) 1 (T.2 0 0) xr) 2 (T.2 0 0) (-1)) 0 0 (T.2 0 0 + 1)) o ad) := X.eq (st_users _)
        refine lv_aload_n hx hb dX8_user_64 rfl (lv_at hl 0 rfl) ?_
        refine k_get (index := 81) (j := 1) (ad := ad) (k := 16) (i := 0) Z X ct_16 inlX8 rfl (by decide) (inU_8 _ (List.mem_of_getElem? (i := 19) rfl)) (fun _ h => h) (v := .int (nI (T.2 0 0 + 1))) rfl dX8_user_65 ?_
        refine lv_iconst (v := 1) hx hb dX8_user_68 (by decide) ?_
        refine lv_isub hx hb dX8_user_69 ?_
        refine lv_topi (fun x_69 e_69 => ?_)
        obtain rfl : x_69 = nI (T.2 0 0) := e_69.trans (nI_pred _)
        have hk : cUser T xr = 0 := by simp [cUser, c_5, c_18, c_29]
        exact k_iret Z X hr hlocks rfl (Nat.le_of_ble_eq_true rfl) (Nat.le_of_ble_eq_true rfl) dX8_user_70 ⟨fun _ => rfl, rfl, (congrArg (fun z => cto G S z o ad) (show (sN (sI (sI (sI T 24 0 0) 1 (T.2 0 0) xr) 2 (T.2 0 0) (-1)) 0 0 (T.2 0 0 + 1)) = oUser (sI T 24 0 0) xr from rfl)).trans (by rw [if_pos hk])⟩
      · exact absurd c_29 (by decide)
    · have c_18 : (T.2 0 0) = 12 := (nI_eq (a := (T.2 0 0)) (b := 12) (by omega) (by decide)).mp c_18
      refine lv_iconst (v := 2) hx hb dX8_user_21 (by decide) ?_
      refine lv_goto (tgt := 26) hx hb dX8_user_22 (by decide) ?_
      refine k_Ri X (k_runV (As := [.int 2]) (rest := []) Z X (c_X8_fails l E G S T o ad 2) (k_cwV 1 Z.1.2.2.2.2 (inU_9 _ (List.mem_of_getElem? (i := 2) rfl)) (inU_9 _ (List.mem_of_getElem? (i := 3) rfl)) (inU_9 _ (List.mem_of_getElem? (i := 4) rfl)) (inU_1 _ (List.mem_of_getElem? (i := 5) rfl)) (inU_9 _ (List.mem_of_getElem? (i := 5) rfl)) rfl rfl (by decide +kernel) ⟨Nat.le_of_ble_eq_true rfl, Nat.le_of_ble_eq_true rfl⟩) (k_recv Z X ct_16 rfl) rfl hl.1 rfl (Nat.le_of_ble_eq_true rfl) dX8_user_26 ⟨Nat.le_of_ble_eq_true rfl, Nat.le_of_ble_eq_true rfl⟩) (fun r_26 ad1 ct1 H locs hp X => ?_)
      obtain ⟨rfl, rfl, rfl⟩ := hp
      refine lv_topi (fun x_26 e_26 => ?_)
      obtain rfl : x_26 = 1 := e_26.trans (by decide)
      refine lv_if_eq (tgt := 34) hx hb dX8_user_29 (by decide) (fun c_29 => ?_) (fun c_29 => ?_)
      · exact absurd c_29 (by decide)
      · refine lv_iconst (v := 0) hx hb dX8_user_32 (by decide) ?_
        have hk : cUser T xr = 2 := by simp [cUser, c_5, c_18, c_29]
        exact k_iret Z X hr hlocks rfl (Nat.le_of_ble_eq_true rfl) (Nat.le_of_ble_eq_true rfl) dX8_user_33 ⟨fun h => absurd (hk.symm.trans h) (by decide), rfl, by rw [hk, if_neg (by decide)]⟩
  · have c_5 : (inR xr 0 3) = false := bI_0 c_5
    refine lv_iconst (v := 1) hx hb dX8_user_8 (by decide) ?_
    refine lv_goto (tgt := 26) hx hb dX8_user_9 (by decide) ?_
    refine k_Ri X (k_runV (As := [.int 1]) (rest := []) Z X (c_X8_fails l E G S T o ad 1) (k_cwV 1 Z.1.2.2.2.2 (inU_9 _ (List.mem_of_getElem? (i := 2) rfl)) (inU_9 _ (List.mem_of_getElem? (i := 3) rfl)) (inU_9 _ (List.mem_of_getElem? (i := 4) rfl)) (inU_1 _ (List.mem_of_getElem? (i := 5) rfl)) (inU_9 _ (List.mem_of_getElem? (i := 5) rfl)) rfl rfl (by decide +kernel) ⟨Nat.le_of_ble_eq_true rfl, Nat.le_of_ble_eq_true rfl⟩) (k_recv Z X ct_16 rfl) rfl hl.1 rfl (Nat.le_of_ble_eq_true rfl) dX8_user_26 ⟨Nat.le_of_ble_eq_true rfl, Nat.le_of_ble_eq_true rfl⟩) (fun r_26 ad1 ct1 H locs hp X => ?_)
    obtain ⟨rfl, rfl, rfl⟩ := hp
    refine lv_topi (fun x_26 e_26 => ?_)
    obtain rfl : x_26 = 1 := e_26.trans (by decide)
    refine lv_if_eq (tgt := 34) hx hb dX8_user_29 (by decide) (fun c_29 => ?_) (fun c_29 => ?_)
    · exact absurd c_29 (by decide)
    · refine lv_iconst (v := 0) hx hb dX8_user_32 (by decide) ?_
      have hk : cUser T xr = 1 := by simp [cUser, c_5, c_29]
      exact k_iret Z X hr hlocks rfl (Nat.le_of_ble_eq_true rfl) (Nat.le_of_ble_eq_true rfl) dX8_user_33 ⟨fun h => absurd (hk.symm.trans h) (by decide), rfl, by rw [hk, if_neg (by decide)]⟩
theorem dX8_role_0 : decode cX8_role 0 = .ok (.aload_n 0, 1) := by decide +kernel
theorem dX8_role_1 : decode cX8_role 1 = .ok (.aload_n 0, 1) := by decide +kernel
theorem dX8_role_2 : decode cX8_role 2 = .ok (.iload_n 1, 1) := by decide +kernel
theorem dX8_role_3 : decode cX8_role 3 = .ok (.invokevirtual 114, 3) := by decide +kernel
theorem dX8_role_6 : decode cX8_role 6 = .ok (.ifCond .ne 7, 3) := by decide +kernel
theorem dX8_role_9 : decode cX8_role 9 = .ok (.iconst 1, 1) := by decide +kernel
theorem dX8_role_10 : decode cX8_role 10 = .ok (.goto 15, 3) := by decide +kernel
theorem dX8_role_13 : decode cX8_role 13 = .ok (.iload_n 2, 1) := by decide +kernel
theorem dX8_role_14 : decode cX8_role 14 = .ok (.invokestatic 108, 3) := by decide +kernel
theorem dX8_role_17 : decode cX8_role 17 = .ok (.ifCond .eq 7, 3) := by decide +kernel
theorem dX8_role_20 : decode cX8_role 20 = .ok (.iconst 0, 1) := by decide +kernel
theorem dX8_role_21 : decode cX8_role 21 = .ok (.goto 4, 3) := by decide +kernel
theorem dX8_role_24 : decode cX8_role 24 = .ok (.iconst 2, 1) := by decide +kernel
theorem dX8_role_25 : decode cX8_role 25 = .ok (.invokevirtual 111, 3) := by decide +kernel
theorem dX8_role_28 : decode cX8_role 28 = .ok (.ifCond .eq 5, 3) := by decide +kernel
theorem dX8_role_31 : decode cX8_role 31 = .ok (.iconst 0, 1) := by decide +kernel
theorem dX8_role_32 : decode cX8_role 32 = .ok (.ireturn, 1) := by decide +kernel
theorem dX8_role_33 : decode cX8_role 33 = .ok (.aload_n 0, 1) := by decide +kernel
theorem dX8_role_34 : decode cX8_role 34 = .ok (.getfield 7, 3) := by decide +kernel
theorem dX8_role_37 : decode cX8_role 37 = .ok (.iload_n 1, 1) := by decide +kernel
theorem dX8_role_38 : decode cX8_role 38 = .ok (.iaload, 1) := by decide +kernel
theorem dX8_role_39 : decode cX8_role 39 = .ok (.istore_n 3, 1) := by decide +kernel
theorem dX8_role_40 : decode cX8_role 40 = .ok (.aload_n 0, 1) := by decide +kernel
theorem dX8_role_41 : decode cX8_role 41 = .ok (.getfield 7, 3) := by decide +kernel
theorem dX8_role_44 : decode cX8_role 44 = .ok (.iload_n 1, 1) := by decide +kernel
theorem dX8_role_45 : decode cX8_role 45 = .ok (.iload_n 2, 1) := by decide +kernel
theorem dX8_role_46 : decode cX8_role 46 = .ok (.iastore, 1) := by decide +kernel
theorem dX8_role_47 : decode cX8_role 47 = .ok (.aload_n 0, 1) := by decide +kernel
theorem dX8_role_48 : decode cX8_role 48 = .ok (.invokevirtual 117, 3) := by decide +kernel
theorem dX8_role_51 : decode cX8_role 51 = .ok (.iload_n 3, 1) := by decide +kernel
theorem dX8_role_52 : decode cX8_role 52 = .ok (.ireturn, 1) := by decide +kernel
set_option maxHeartbeats 4000000 in
set_option maxRecDepth 100000 in
theorem c_X8_role (l : Launch) (E : State) (G : kG) (S T : kSt) (o : Int64) (ad : kAd) (xu xr : Int32) (hT : okN T) : Met l yX8_role (.code yX8_role cX8_role 4 (some .int) :: wsL_law) ({ frames := 6, cells := 0, slots := 0, locals := 130 } : Room) (va_Pc [.ref (ad 16 0), .int xu, .int xr] (kPre E G ad (cto G S T o ad))) (kQi E G (fun r ad1 ct1 => (cRole T xu xr = 0 → r = T.1 1 (cl xu)) ∧ ad = ad1 ∧ ct1 = cto G S (if cRole T xu xr = 0 then oRole (sI T 24 0 0) (kdT T) xu xr else sI T 24 0 (cRole T xu xr)) o ad)) 0 0 (kB E.heap.size) := by
  refine Met.ofW (cc := cX8_role) (maxL := 4) (ret := (some .int)) (by decide) rfl ?_
  intro p e s m args below meth c s₁ B hml hv
  obtain ⟨rfl, hM, hK, hW0⟩ := hv
  have hlocks := B.notSynchronized
  have hr := B.returns
  have Z : kZ p m c cX8_role 4 s _ wsL_law RX8 E G := ⟨⟨B.exec, B.bytes, hml, findClass_of_methodNamed B.named, fun w h => atoms_spec (ws := .code yX8_role cX8_role 4 (some .int) :: wsL_law) B.pre w (List.mem_cons_of_mem _ h)⟩, hM, hK⟩
  have hx := Z.1.1
  have hb := Z.1.2.1
  have X := kX.of hW0
  have hl := lv_entry ([.ref (ad 16 0), .int xu, .int xr]) (n := 4) (Nat.le_of_ble_eq_true rfl)
  rw [lg_entry_eq]
  generalize (lg_sl ([.ref (ad 16 0), .int xu, .int xr]) ++ List.replicate (4 - (lg_sl ([.ref (ad 16 0), .int xu, .int xr])).length) Slot.unset).toArray = ls at hl ⊢
  have hl : lv_has ls 4 [(0, .ref (ad 16 0)), (1, .int xu), (2, .int xr)] := hl
  have hT0 := hT
  obtain ⟨hT1, hT2, hT3, hT4, hT5, hT6, hT7⟩ := hT0
  refine lv_aload_n hx hb dX8_role_0 rfl (lv_at hl 0 rfl) ?_
  refine lv_aload_n hx hb dX8_role_1 rfl (lv_at hl 0 rfl) ?_
  refine lv_iload_n hx hb dX8_role_2 rfl (lv_at hl 1 rfl) ?_
  refine k_Ri X (k_runV (As := [.int xu]) (rest := [.ref (ad 16 0)]) Z X (c_X8_isUser l E G S T o ad xu (by omega)) (k_cwV 1 Z.1.2.2.2.2 (inU_12 _ (List.mem_of_getElem? (i := 9) rfl)) (inU_12 _ (List.mem_of_getElem? (i := 10) rfl)) (inU_12 _ (List.mem_of_getElem? (i := 11) rfl)) (inU_1 _ (List.mem_of_getElem? (i := 5) rfl)) (inU_12 _ (List.mem_of_getElem? (i := 12) rfl)) rfl rfl (by decide +kernel) ⟨Nat.le_of_ble_eq_true rfl, Nat.le_of_ble_eq_true rfl⟩) (k_recv Z X ct_16 rfl) rfl hl.1 rfl (Nat.le_of_ble_eq_true rfl) dX8_role_3 ⟨Nat.le_of_ble_eq_true rfl, Nat.le_of_ble_eq_true rfl⟩) (fun r_3 ad1 ct1 H locs hp X => ?_)
  obtain ⟨rfl, rfl, rfl⟩ := hp
  refine lv_if_ne (tgt := 13) hx hb dX8_role_6 (by decide) (fun c_6 => ?_) (fun c_6 => ?_)
  · have c_6 : inB xu (T.2 0 0) = true := bI_1 c_6
    obtain ⟨ju, hju, hxu⟩ := inB_of c_6 (by omega)
    subst hxu
    have hcu : cl (nI ju) = ju := nI_clamp (by omega)
    refine lv_iload_n hx hb dX8_role_13 rfl (lv_at hl 2 rfl) ?_
    refine k_Ri X (k_runS (As := [.int xr]) (rest := [.ref (ad 16 0)]) Z X (c_X8_isRole l E G S T o ad xr) (k_cwS 1 Z.1.2.2.2.2 (inU_8 _ (List.mem_of_getElem? (i := 20) rfl)) (inU_8 _ (List.mem_of_getElem? (i := 21) rfl)) (inU_1 _ (List.mem_of_getElem? (i := 5) rfl)) (inU_8 _ (List.mem_of_getElem? (i := 22) rfl)) rfl rfl (by decide +kernel) ⟨Nat.le_of_ble_eq_true rfl, Nat.le_of_ble_eq_true rfl⟩) rfl hl.1 rfl (Nat.le_of_ble_eq_true rfl) dX8_role_14 ⟨Nat.le_of_ble_eq_true rfl, Nat.le_of_ble_eq_true rfl⟩) (fun r_14 ad1 ct1 H locs hp X => ?_)
    obtain ⟨rfl, rfl, rfl⟩ := hp
    refine lv_if_eq (tgt := 24) hx hb dX8_role_17 (by decide) (fun c_17 => ?_) (fun c_17 => ?_)
    · have c_17 : (inR xr 0 3) = false := bI_0 c_17
      refine lv_iconst (v := 2) hx hb dX8_role_24 (by decide) ?_
      refine k_Ri X (k_runV (As := [.int 2]) (rest := []) Z X (c_X8_fails l E G S T o ad 2) (k_cwV 1 Z.1.2.2.2.2 (inU_9 _ (List.mem_of_getElem? (i := 2) rfl)) (inU_9 _ (List.mem_of_getElem? (i := 3) rfl)) (inU_9 _ (List.mem_of_getElem? (i := 4) rfl)) (inU_1 _ (List.mem_of_getElem? (i := 5) rfl)) (inU_9 _ (List.mem_of_getElem? (i := 5) rfl)) rfl rfl (by decide +kernel) ⟨Nat.le_of_ble_eq_true rfl, Nat.le_of_ble_eq_true rfl⟩) (k_recv Z X ct_16 rfl) rfl hl.1 rfl (Nat.le_of_ble_eq_true rfl) dX8_role_25 ⟨Nat.le_of_ble_eq_true rfl, Nat.le_of_ble_eq_true rfl⟩) (fun r_25 ad1 ct1 H locs hp X => ?_)
      obtain ⟨rfl, rfl, rfl⟩ := hp
      refine lv_topi (fun x_25 e_25 => ?_)
      obtain rfl : x_25 = 1 := e_25.trans (by decide)
      refine lv_if_eq (tgt := 33) hx hb dX8_role_28 (by decide) (fun c_28 => ?_) (fun c_28 => ?_)
      · exact absurd c_28 (by decide)
      · refine lv_iconst (v := 0) hx hb dX8_role_31 (by decide) ?_
        have hk : cRole T (nI ju) xr = 2 := by simp [cRole, hcu, c_6, c_17, c_28]
        exact k_iret Z X hr hlocks rfl (Nat.le_of_ble_eq_true rfl) (Nat.le_of_ble_eq_true rfl) dX8_role_32 ⟨fun h => absurd (hk.symm.trans h) (by decide), rfl, by rw [hk, if_neg (by decide)]⟩
    · have c_17 : (inR xr 0 3) = true := bI_1 c_17
      refine lv_iconst (v := 0) hx hb dX8_role_20 (by decide) ?_
      refine lv_goto (tgt := 25) hx hb dX8_role_21 (by decide) ?_
      refine k_Ri X (k_runV (As := [.int 0]) (rest := []) Z X (c_X8_fails l E G S T o ad 0) (k_cwV 1 Z.1.2.2.2.2 (inU_9 _ (List.mem_of_getElem? (i := 2) rfl)) (inU_9 _ (List.mem_of_getElem? (i := 3) rfl)) (inU_9 _ (List.mem_of_getElem? (i := 4) rfl)) (inU_1 _ (List.mem_of_getElem? (i := 5) rfl)) (inU_9 _ (List.mem_of_getElem? (i := 5) rfl)) rfl rfl (by decide +kernel) ⟨Nat.le_of_ble_eq_true rfl, Nat.le_of_ble_eq_true rfl⟩) (k_recv Z X ct_16 rfl) rfl hl.1 rfl (Nat.le_of_ble_eq_true rfl) dX8_role_25 ⟨Nat.le_of_ble_eq_true rfl, Nat.le_of_ble_eq_true rfl⟩) (fun r_25 ad1 ct1 H locs hp X => ?_)
      obtain ⟨rfl, rfl, rfl⟩ := hp
      refine lv_topi (fun x_25 e_25 => ?_)
      obtain rfl : x_25 = 0 := e_25.trans (by decide)
      refine lv_if_eq (tgt := 33) hx hb dX8_role_28 (by decide) (fun c_28 => ?_) (fun c_28 => ?_)
      · refine lv_aload_n hx hb dX8_role_33 rfl (lv_at hl 0 rfl) ?_
        refine k_get (index := 7) (j := 2) (ad := ad) (k := 16) (i := 0) Z X ct_16 inlX8 rfl (by decide) (inU_6 _ (List.mem_of_getElem? (i := 6) rfl)) (fun _ h => h) (v := .ref (ad 17 0)) rfl dX8_role_34 ?_
        refine lv_iload_n hx hb dX8_role_37 rfl (lv_at hl 1 rfl) ?_
        refine k_ild (ad := ad) (k := 17) (i := 0) Z X ct_17_0 (vp_in_nI (by first | assumption | omega) (by decide)) dX8_role_38 ?_
        refine lv_topi (fun x_38 e_38 => ?_)
        obtain rfl : x_38 = T.1 1 ju := e_38.trans (by first | (simp only [nI_clamp (show ju < 2 ^ 31 by omega)]; done) | (simp only [nI_clamp (show ju < 2 ^ 31 by omega)]; rfl) | (simp only [nI_clamp (show ju < 2 ^ 31 by omega)]; simp [sI, sN]; done))
        refine lv_istore_n (lv' := [(3, .int (T.1 1 ju)), (0, .ref (ad 16 0)), (1, .int (nI ju)), (2, .int xr)]) hx hb dX8_role_39 rfl hl (by decide) rfl (fun ls hl => ?_)
        refine lv_aload_n hx hb dX8_role_40 rfl (lv_at hl 1 rfl) ?_
        refine k_get (index := 7) (j := 2) (ad := ad) (k := 16) (i := 0) Z X ct_16 inlX8 rfl (by decide) (inU_6 _ (List.mem_of_getElem? (i := 6) rfl)) (fun _ h => h) (v := .ref (ad 17 0)) rfl dX8_role_41 ?_
        refine lv_iload_n hx hb dX8_role_44 rfl (lv_at hl 2 rfl) ?_
        refine lv_iload_n hx hb dX8_role_45 rfl (lv_at hl 3 rfl) ?_
        refine k_ist (ad := ad) (k := 17) (i := 0) Z X ct_17_0 (vp_in_nI (by first | assumption | omega) (by decide)) dX8_role_46 (fun H locs X => ?_)
        have X : kX E G s H locs ad (cto G S (sI (sI T 24 0 0) 1 ju xr) o ad) := X.eq (st_17_0 _ _ (by omega))
        refine lv_aload_n hx hb dX8_role_47 rfl (lv_at hl 1 rfl) ?_
        refine k_Rv X (k_runV (As := []) (rest := []) Z X (c_X8_settles l E G S (sI (sI T 24 0 0) 1 ju xr) o ad hT) (k_cwV 0 Z.1.2.2.2.2 (inU_12 _ (List.mem_of_getElem? (i := 13) rfl)) (inU_12 _ (List.mem_of_getElem? (i := 14) rfl)) (inU_12 _ (List.mem_of_getElem? (i := 15) rfl)) (inU_1 _ (List.mem_of_getElem? (i := 5) rfl)) (inU_12 _ (List.mem_of_getElem? (i := 16) rfl)) rfl rfl (by decide +kernel) ⟨Nat.le_of_ble_eq_true rfl, Nat.le_of_ble_eq_true rfl⟩) (k_recv Z X ct_16 rfl) rfl hl.1 rfl (Nat.le_of_ble_eq_true rfl) dX8_role_48 ⟨Nat.le_of_ble_eq_true rfl, Nat.le_of_ble_eq_true rfl⟩) (fun ad1 ct1 H locs hp X => ?_)
        obtain ⟨rfl, rfl⟩ := hp
        refine lv_iload_n hx hb dX8_role_51 rfl (lv_at hl 0 rfl) ?_
        have hk : cRole T (nI ju) xr = 0 := by simp [cRole, hcu, c_6, c_17, c_28]
        exact k_iret Z X hr hlocks rfl (Nat.le_of_ble_eq_true rfl) (Nat.le_of_ble_eq_true rfl) dX8_role_52 ⟨fun _ => by rw [hcu], rfl, (congrArg (fun z => cto G S z o ad) (show (stl (sI (sI T 24 0 0) 1 ju xr) (kdT (sI (sI T 24 0 0) 1 ju xr)) (T.2 0 2)) = oRole (sI T 24 0 0) (kdT T) (nI ju) xr from by simp only [oRole, hcu]; rfl)).trans (by rw [if_pos hk])⟩
      · exact absurd c_28 (by decide)
  · have c_6 : inB xu (T.2 0 0) = false := bI_0 c_6
    refine lv_iconst (v := 1) hx hb dX8_role_9 (by decide) ?_
    refine lv_goto (tgt := 25) hx hb dX8_role_10 (by decide) ?_
    refine k_Ri X (k_runV (As := [.int 1]) (rest := []) Z X (c_X8_fails l E G S T o ad 1) (k_cwV 1 Z.1.2.2.2.2 (inU_9 _ (List.mem_of_getElem? (i := 2) rfl)) (inU_9 _ (List.mem_of_getElem? (i := 3) rfl)) (inU_9 _ (List.mem_of_getElem? (i := 4) rfl)) (inU_1 _ (List.mem_of_getElem? (i := 5) rfl)) (inU_9 _ (List.mem_of_getElem? (i := 5) rfl)) rfl rfl (by decide +kernel) ⟨Nat.le_of_ble_eq_true rfl, Nat.le_of_ble_eq_true rfl⟩) (k_recv Z X ct_16 rfl) rfl hl.1 rfl (Nat.le_of_ble_eq_true rfl) dX8_role_25 ⟨Nat.le_of_ble_eq_true rfl, Nat.le_of_ble_eq_true rfl⟩) (fun r_25 ad1 ct1 H locs hp X => ?_)
    obtain ⟨rfl, rfl, rfl⟩ := hp
    refine lv_topi (fun x_25 e_25 => ?_)
    obtain rfl : x_25 = 1 := e_25.trans (by decide)
    refine lv_if_eq (tgt := 33) hx hb dX8_role_28 (by decide) (fun c_28 => ?_) (fun c_28 => ?_)
    · exact absurd c_28 (by decide)
    · refine lv_iconst (v := 0) hx hb dX8_role_31 (by decide) ?_
      have hk : cRole T xu xr = 1 := by simp [cRole, c_6, c_28]
      exact k_iret Z X hr hlocks rfl (Nat.le_of_ble_eq_true rfl) (Nat.le_of_ble_eq_true rfl) dX8_role_32 ⟨fun h => absurd (hk.symm.trans h) (by decide), rfl, by rw [hk, if_neg (by decide)]⟩
theorem dX8_ends_0 : decode cX8_ends 0 = .ok (.aload_n 0, 1) := by decide +kernel
theorem dX8_ends_1 : decode cX8_ends 1 = .ok (.aload_n 0, 1) := by decide +kernel
theorem dX8_ends_2 : decode cX8_ends 2 = .ok (.iload_n 1, 1) := by decide +kernel
theorem dX8_ends_3 : decode cX8_ends 3 = .ok (.invokevirtual 114, 3) := by decide +kernel
theorem dX8_ends_6 : decode cX8_ends 6 = .ok (.ifCond .ne 7, 3) := by decide +kernel
theorem dX8_ends_9 : decode cX8_ends 9 = .ok (.iconst 1, 1) := by decide +kernel
theorem dX8_ends_10 : decode cX8_ends 10 = .ok (.goto 19, 3) := by decide +kernel
theorem dX8_ends_13 : decode cX8_ends 13 = .ok (.iload_n 2, 1) := by decide +kernel
theorem dX8_ends_14 : decode cX8_ends 14 = .ok (.iconst (-1), 1) := by decide +kernel
theorem dX8_ends_15 : decode cX8_ends 15 = .ok (.sipush 10000, 3) := by decide +kernel
theorem dX8_ends_18 : decode cX8_ends 18 = .ok (.invokestatic 84, 3) := by decide +kernel
theorem dX8_ends_21 : decode cX8_ends 21 = .ok (.ifCond .eq 7, 3) := by decide +kernel
theorem dX8_ends_24 : decode cX8_ends 24 = .ok (.iconst 0, 1) := by decide +kernel
theorem dX8_ends_25 : decode cX8_ends 25 = .ok (.goto 4, 3) := by decide +kernel
theorem dX8_ends_28 : decode cX8_ends 28 = .ok (.iconst 2, 1) := by decide +kernel
theorem dX8_ends_29 : decode cX8_ends 29 = .ok (.invokevirtual 111, 3) := by decide +kernel
theorem dX8_ends_32 : decode cX8_ends 32 = .ok (.ifCond .eq 5, 3) := by decide +kernel
theorem dX8_ends_35 : decode cX8_ends 35 = .ok (.iconst 0, 1) := by decide +kernel
theorem dX8_ends_36 : decode cX8_ends 36 = .ok (.ireturn, 1) := by decide +kernel
theorem dX8_ends_37 : decode cX8_ends 37 = .ok (.aload_n 0, 1) := by decide +kernel
theorem dX8_ends_38 : decode cX8_ends 38 = .ok (.getfield 13, 3) := by decide +kernel
theorem dX8_ends_41 : decode cX8_ends 41 = .ok (.iload_n 1, 1) := by decide +kernel
theorem dX8_ends_42 : decode cX8_ends 42 = .ok (.iload_n 2, 1) := by decide +kernel
theorem dX8_ends_43 : decode cX8_ends 43 = .ok (.iconst (-1), 1) := by decide +kernel
theorem dX8_ends_44 : decode cX8_ends 44 = .ok (.if_icmp .ne 7, 3) := by decide +kernel
theorem dX8_ends_47 : decode cX8_ends 47 = .ok (.iconst (-1), 1) := by decide +kernel
theorem dX8_ends_48 : decode cX8_ends 48 = .ok (.goto 9, 3) := by decide +kernel
theorem dX8_ends_51 : decode cX8_ends 51 = .ok (.aload_n 0, 1) := by decide +kernel
theorem dX8_ends_52 : decode cX8_ends 52 = .ok (.getfield 88, 3) := by decide +kernel
theorem dX8_ends_55 : decode cX8_ends 55 = .ok (.iload_n 2, 1) := by decide +kernel
theorem dX8_ends_56 : decode cX8_ends 56 = .ok (.iadd, 1) := by decide +kernel
theorem dX8_ends_57 : decode cX8_ends 57 = .ok (.iastore, 1) := by decide +kernel
theorem dX8_ends_58 : decode cX8_ends 58 = .ok (.aload_n 0, 1) := by decide +kernel
theorem dX8_ends_59 : decode cX8_ends 59 = .ok (.invokevirtual 117, 3) := by decide +kernel
theorem dX8_ends_62 : decode cX8_ends 62 = .ok (.aload_n 0, 1) := by decide +kernel
theorem dX8_ends_63 : decode cX8_ends 63 = .ok (.getfield 13, 3) := by decide +kernel
theorem dX8_ends_66 : decode cX8_ends 66 = .ok (.iload_n 1, 1) := by decide +kernel
theorem dX8_ends_67 : decode cX8_ends 67 = .ok (.iaload, 1) := by decide +kernel
theorem dX8_ends_68 : decode cX8_ends 68 = .ok (.ireturn, 1) := by decide +kernel
set_option maxHeartbeats 4000000 in
set_option maxRecDepth 100000 in
theorem c_X8_ends (l : Launch) (E : State) (G : kG) (S T : kSt) (o : Int64) (ad : kAd) (xu xh : Int32) (hT : okN T) : Met l yX8_ends (.code yX8_ends cX8_ends 3 (some .int) :: wsL_law) ({ frames := 6, cells := 0, slots := 0, locals := 130 } : Room) (va_Pc [.ref (ad 16 0), .int xu, .int xh] (kPre E G ad (cto G S T o ad))) (kQi E G (fun r ad1 ct1 => (cEnds T xu xh = 0 → r = vEnds T xh) ∧ ad = ad1 ∧ ct1 = cto G S (if cEnds T xu xh = 0 then oEnds (sI T 24 0 0) (kdT T) xu xh else sI T 24 0 (cEnds T xu xh)) o ad)) 0 0 (kB E.heap.size) := by
  refine Met.ofW (cc := cX8_ends) (maxL := 3) (ret := (some .int)) (by decide) rfl ?_
  intro p e s m args below meth c s₁ B hml hv
  obtain ⟨rfl, hM, hK, hW0⟩ := hv
  have hlocks := B.notSynchronized
  have hr := B.returns
  have Z : kZ p m c cX8_ends 3 s _ wsL_law RX8 E G := ⟨⟨B.exec, B.bytes, hml, findClass_of_methodNamed B.named, fun w h => atoms_spec (ws := .code yX8_ends cX8_ends 3 (some .int) :: wsL_law) B.pre w (List.mem_cons_of_mem _ h)⟩, hM, hK⟩
  have hx := Z.1.1
  have hb := Z.1.2.1
  have X := kX.of hW0
  have hl := lv_entry ([.ref (ad 16 0), .int xu, .int xh]) (n := 3) (Nat.le_of_ble_eq_true rfl)
  rw [lg_entry_eq]
  generalize (lg_sl ([.ref (ad 16 0), .int xu, .int xh]) ++ List.replicate (3 - (lg_sl ([.ref (ad 16 0), .int xu, .int xh])).length) Slot.unset).toArray = ls at hl ⊢
  have hl : lv_has ls 3 [(0, .ref (ad 16 0)), (1, .int xu), (2, .int xh)] := hl
  have hT0 := hT
  obtain ⟨hT1, hT2, hT3, hT4, hT5, hT6, hT7⟩ := hT0
  refine lv_aload_n hx hb dX8_ends_0 rfl (lv_at hl 0 rfl) ?_
  refine lv_aload_n hx hb dX8_ends_1 rfl (lv_at hl 0 rfl) ?_
  refine lv_iload_n hx hb dX8_ends_2 rfl (lv_at hl 1 rfl) ?_
  refine k_Ri X (k_runV (As := [.int xu]) (rest := [.ref (ad 16 0)]) Z X (c_X8_isUser l E G S T o ad xu (by omega)) (k_cwV 1 Z.1.2.2.2.2 (inU_12 _ (List.mem_of_getElem? (i := 9) rfl)) (inU_12 _ (List.mem_of_getElem? (i := 10) rfl)) (inU_12 _ (List.mem_of_getElem? (i := 11) rfl)) (inU_1 _ (List.mem_of_getElem? (i := 5) rfl)) (inU_12 _ (List.mem_of_getElem? (i := 12) rfl)) rfl rfl (by decide +kernel) ⟨Nat.le_of_ble_eq_true rfl, Nat.le_of_ble_eq_true rfl⟩) (k_recv Z X ct_16 rfl) rfl hl.1 rfl (Nat.le_of_ble_eq_true rfl) dX8_ends_3 ⟨Nat.le_of_ble_eq_true rfl, Nat.le_of_ble_eq_true rfl⟩) (fun r_3 ad1 ct1 H locs hp X => ?_)
  obtain ⟨rfl, rfl, rfl⟩ := hp
  refine lv_if_ne (tgt := 13) hx hb dX8_ends_6 (by decide) (fun c_6 => ?_) (fun c_6 => ?_)
  · have c_6 : inB xu (T.2 0 0) = true := bI_1 c_6
    obtain ⟨ju, hju, hxu⟩ := inB_of c_6 (by omega)
    subst hxu
    have hcu : cl (nI ju) = ju := nI_clamp (by omega)
    refine lv_iload_n hx hb dX8_ends_13 rfl (lv_at hl 2 rfl) ?_
    refine lv_iconst (v := (-1)) hx hb dX8_ends_14 (by decide) ?_
    refine lv_sipush (v := 10000) hx hb dX8_ends_15 (by decide) ?_
    refine k_Ri X (k_runS (As := [.int xh, .int (-1), .int 10000]) (rest := [.ref (ad 16 0)]) Z X (c_X8_isIn l E G S T o ad xh (-1) 10000) (k_cwS 3 Z.1.2.2.2.2 (inU_8 _ (List.mem_of_getElem? (i := 23) rfl)) (inU_9 _ (List.mem_of_getElem? (i := 0) rfl)) (inU_1 _ (List.mem_of_getElem? (i := 5) rfl)) (inU_9 _ (List.mem_of_getElem? (i := 1) rfl)) rfl rfl (by decide +kernel) ⟨Nat.le_of_ble_eq_true rfl, Nat.le_of_ble_eq_true rfl⟩) rfl hl.1 rfl (Nat.le_of_ble_eq_true rfl) dX8_ends_18 ⟨Nat.le_of_ble_eq_true rfl, Nat.le_of_ble_eq_true rfl⟩) (fun r_18 ad1 ct1 H locs hp X => ?_)
    obtain ⟨rfl, rfl, rfl⟩ := hp
    refine lv_if_eq (tgt := 28) hx hb dX8_ends_21 (by decide) (fun c_21 => ?_) (fun c_21 => ?_)
    · have c_21 : (inR xh (-1) 10000) = false := bI_0 c_21
      refine lv_iconst (v := 2) hx hb dX8_ends_28 (by decide) ?_
      refine k_Ri X (k_runV (As := [.int 2]) (rest := []) Z X (c_X8_fails l E G S T o ad 2) (k_cwV 1 Z.1.2.2.2.2 (inU_9 _ (List.mem_of_getElem? (i := 2) rfl)) (inU_9 _ (List.mem_of_getElem? (i := 3) rfl)) (inU_9 _ (List.mem_of_getElem? (i := 4) rfl)) (inU_1 _ (List.mem_of_getElem? (i := 5) rfl)) (inU_9 _ (List.mem_of_getElem? (i := 5) rfl)) rfl rfl (by decide +kernel) ⟨Nat.le_of_ble_eq_true rfl, Nat.le_of_ble_eq_true rfl⟩) (k_recv Z X ct_16 rfl) rfl hl.1 rfl (Nat.le_of_ble_eq_true rfl) dX8_ends_29 ⟨Nat.le_of_ble_eq_true rfl, Nat.le_of_ble_eq_true rfl⟩) (fun r_29 ad1 ct1 H locs hp X => ?_)
      obtain ⟨rfl, rfl, rfl⟩ := hp
      refine lv_topi (fun x_29 e_29 => ?_)
      obtain rfl : x_29 = 1 := e_29.trans (by decide)
      refine lv_if_eq (tgt := 37) hx hb dX8_ends_32 (by decide) (fun c_32 => ?_) (fun c_32 => ?_)
      · exact absurd c_32 (by decide)
      · refine lv_iconst (v := 0) hx hb dX8_ends_35 (by decide) ?_
        have hk : cEnds T (nI ju) xh = 2 := by simp [cEnds, hcu, c_6, c_21, c_32]
        exact k_iret Z X hr hlocks rfl (Nat.le_of_ble_eq_true rfl) (Nat.le_of_ble_eq_true rfl) dX8_ends_36 ⟨fun h => absurd (hk.symm.trans h) (by decide), rfl, by rw [hk, if_neg (by decide)]⟩
    · have c_21 : (inR xh (-1) 10000) = true := bI_1 c_21
      refine lv_iconst (v := 0) hx hb dX8_ends_24 (by decide) ?_
      refine lv_goto (tgt := 29) hx hb dX8_ends_25 (by decide) ?_
      refine k_Ri X (k_runV (As := [.int 0]) (rest := []) Z X (c_X8_fails l E G S T o ad 0) (k_cwV 1 Z.1.2.2.2.2 (inU_9 _ (List.mem_of_getElem? (i := 2) rfl)) (inU_9 _ (List.mem_of_getElem? (i := 3) rfl)) (inU_9 _ (List.mem_of_getElem? (i := 4) rfl)) (inU_1 _ (List.mem_of_getElem? (i := 5) rfl)) (inU_9 _ (List.mem_of_getElem? (i := 5) rfl)) rfl rfl (by decide +kernel) ⟨Nat.le_of_ble_eq_true rfl, Nat.le_of_ble_eq_true rfl⟩) (k_recv Z X ct_16 rfl) rfl hl.1 rfl (Nat.le_of_ble_eq_true rfl) dX8_ends_29 ⟨Nat.le_of_ble_eq_true rfl, Nat.le_of_ble_eq_true rfl⟩) (fun r_29 ad1 ct1 H locs hp X => ?_)
      obtain ⟨rfl, rfl, rfl⟩ := hp
      refine lv_topi (fun x_29 e_29 => ?_)
      obtain rfl : x_29 = 0 := e_29.trans (by decide)
      refine lv_if_eq (tgt := 37) hx hb dX8_ends_32 (by decide) (fun c_32 => ?_) (fun c_32 => ?_)
      · refine lv_aload_n hx hb dX8_ends_37 rfl (lv_at hl 0 rfl) ?_
        refine k_get (index := 13) (j := 3) (ad := ad) (k := 16) (i := 0) Z X ct_16 inlX8 rfl (by decide) (inU_6 _ (List.mem_of_getElem? (i := 7) rfl)) (fun _ h => h) (v := .ref (ad 17 1)) rfl dX8_ends_38 ?_
        refine lv_iload_n hx hb dX8_ends_41 rfl (lv_at hl 1 rfl) ?_
        have M_57 : ∀ (H : Heap) (locs : List Loc), kX E G s H locs ad (cto G S (sI T 24 0 0) o ad) → W p l e (headSpec (Cond.code yX8_ends cX8_ends 3 (some .int) :: wsL_law) ({ frames := 6, cells := 0, slots := 0, locals := 130 } : Room)).room s m ([.ref (ad 16 0), .int (nI ju), .int xh] : List Value).toArray below meth c H locs 0 0 (MQ below (kQi E G (fun r ad1 ct1 => (cEnds T (nI ju) xh = 0 → r = vEnds T xh) ∧ ad = ad1 ∧ ct1 = cto G S (if cEnds T (nI ju) xh = 0 then oEnds (sI T 24 0 0) (kdT T) (nI ju) xh else sI T 24 0 (cEnds T (nI ju) xh)) o ad)) ([.ref (ad 16 0), .int (nI ju), .int xh] : List Value).toArray s 0 0 (kB E.heap.size)) (F0 m 57 ls [.int (vEnds T xh), .int (nI ju), .ref (ad 17 1)]) := by
          intro H locs X
          refine k_ist (ad := ad) (k := 17) (i := 1) Z X ct_17_1 (vp_in_nI (by first | assumption | omega) (by decide)) dX8_ends_57 (fun H locs X => ?_)
          have X : kX E G s H locs ad (cto G S (sI (sI T 24 0 0) 2 ju (vEnds T xh)) o ad) := X.eq (st_17_1 _ _ (by omega))
          refine lv_aload_n hx hb dX8_ends_58 rfl (lv_at hl 0 rfl) ?_
          refine k_Rv X (k_runV (As := []) (rest := []) Z X (c_X8_settles l E G S (sI (sI T 24 0 0) 2 ju (vEnds T xh)) o ad hT) (k_cwV 0 Z.1.2.2.2.2 (inU_12 _ (List.mem_of_getElem? (i := 13) rfl)) (inU_12 _ (List.mem_of_getElem? (i := 14) rfl)) (inU_12 _ (List.mem_of_getElem? (i := 15) rfl)) (inU_1 _ (List.mem_of_getElem? (i := 5) rfl)) (inU_12 _ (List.mem_of_getElem? (i := 16) rfl)) rfl rfl (by decide +kernel) ⟨Nat.le_of_ble_eq_true rfl, Nat.le_of_ble_eq_true rfl⟩) (k_recv Z X ct_16 rfl) rfl hl.1 rfl (Nat.le_of_ble_eq_true rfl) dX8_ends_59 ⟨Nat.le_of_ble_eq_true rfl, Nat.le_of_ble_eq_true rfl⟩) (fun ad1 ct1 H locs hp X => ?_)
          obtain ⟨rfl, rfl⟩ := hp
          refine lv_aload_n hx hb dX8_ends_62 rfl (lv_at hl 0 rfl) ?_
          refine k_get (index := 13) (j := 3) (ad := ad) (k := 16) (i := 0) Z X ct_16 inlX8 rfl (by decide) (inU_6 _ (List.mem_of_getElem? (i := 7) rfl)) (fun _ h => h) (v := .ref (ad 17 1)) rfl dX8_ends_63 ?_
          refine lv_iload_n hx hb dX8_ends_66 rfl (lv_at hl 1 rfl) ?_
          refine k_ild (ad := ad) (k := 17) (i := 1) Z X ct_17_1 (vp_in_nI (by first | assumption | omega) (by decide)) dX8_ends_67 ?_
          refine lv_topi (fun x_67 e_67 => ?_)
          obtain rfl : x_67 = (stl (sI (sI T 24 0 0) 2 ju (vEnds T xh)) (kdT (sI (sI T 24 0 0) 2 ju (vEnds T xh))) (T.2 0 2)).1 2 ju := e_67.trans (by first | (simp only [nI_clamp (show ju < 2 ^ 31 by omega)]; done) | (simp only [nI_clamp (show ju < 2 ^ 31 by omega)]; rfl) | (simp only [nI_clamp (show ju < 2 ^ 31 by omega)]; simp [sI, sN]; done))
          refine lv_topi (fun x_67 e_67 => ?_)
          obtain rfl : x_67 = vEnds T xh := e_67.trans (by rw [(stl_r _ _ _).2.1 2 _ (by decide) (by decide)]; exact sI_s)
          have hk : cEnds T (nI ju) xh = 0 := by simp [cEnds, hcu, c_6, c_21, c_32]
          exact k_iret Z X hr hlocks rfl (Nat.le_of_ble_eq_true rfl) (Nat.le_of_ble_eq_true rfl) dX8_ends_68 ⟨fun _ => rfl, rfl, (congrArg (fun z => cto G S z o ad) (show (stl (sI (sI T 24 0 0) 2 ju (vEnds T xh)) (kdT (sI (sI T 24 0 0) 2 ju (vEnds T xh))) (T.2 0 2)) = oEnds (sI T 24 0 0) (kdT T) (nI ju) xh from by simp only [oEnds, hcu]; rfl)).trans (by rw [if_pos hk])⟩
        refine lv_iload_n hx hb dX8_ends_42 rfl (lv_at hl 2 rfl) ?_
        refine lv_iconst (v := (-1)) hx hb dX8_ends_43 (by decide) ?_
        refine lv_icmp_ne (tgt := 51) hx hb dX8_ends_44 (by decide) (fun c_44 => ?_) (fun c_44 => ?_)
        · refine lv_aload_n hx hb dX8_ends_51 rfl (lv_at hl 0 rfl) ?_
          refine k_get (index := 88) (j := 0) (ad := ad) (k := 16) (i := 0) Z X ct_16 inlX8 rfl (by decide) (inU_13 _ (List.mem_of_getElem? (i := 6) rfl)) (fun _ h => h) (v := .int (T.1 0 0)) rfl dX8_ends_52 ?_
          refine lv_iload_n hx hb dX8_ends_55 rfl (lv_at hl 2 rfl) ?_
          refine lv_iadd hx hb dX8_ends_56 ?_
          exact W.eq (congrArg (fun z => F0 m 57 ls (.int z :: [.int (nI ju), .ref (ad 17 1)])) (by simp [vEnds, sI, c_44])) (M_57 H locs X)
        · refine lv_iconst (v := (-1)) hx hb dX8_ends_47 (by decide) ?_
          refine lv_goto (tgt := 57) hx hb dX8_ends_48 (by decide) ?_
          exact W.eq (congrArg (fun z => F0 m 57 ls (.int z :: [.int (nI ju), .ref (ad 17 1)])) (by simp [vEnds, sI, c_44])) (M_57 H locs X)
      · exact absurd c_32 (by decide)
  · have c_6 : inB xu (T.2 0 0) = false := bI_0 c_6
    refine lv_iconst (v := 1) hx hb dX8_ends_9 (by decide) ?_
    refine lv_goto (tgt := 29) hx hb dX8_ends_10 (by decide) ?_
    refine k_Ri X (k_runV (As := [.int 1]) (rest := []) Z X (c_X8_fails l E G S T o ad 1) (k_cwV 1 Z.1.2.2.2.2 (inU_9 _ (List.mem_of_getElem? (i := 2) rfl)) (inU_9 _ (List.mem_of_getElem? (i := 3) rfl)) (inU_9 _ (List.mem_of_getElem? (i := 4) rfl)) (inU_1 _ (List.mem_of_getElem? (i := 5) rfl)) (inU_9 _ (List.mem_of_getElem? (i := 5) rfl)) rfl rfl (by decide +kernel) ⟨Nat.le_of_ble_eq_true rfl, Nat.le_of_ble_eq_true rfl⟩) (k_recv Z X ct_16 rfl) rfl hl.1 rfl (Nat.le_of_ble_eq_true rfl) dX8_ends_29 ⟨Nat.le_of_ble_eq_true rfl, Nat.le_of_ble_eq_true rfl⟩) (fun r_29 ad1 ct1 H locs hp X => ?_)
    obtain ⟨rfl, rfl, rfl⟩ := hp
    refine lv_topi (fun x_29 e_29 => ?_)
    obtain rfl : x_29 = 1 := e_29.trans (by decide)
    refine lv_if_eq (tgt := 37) hx hb dX8_ends_32 (by decide) (fun c_32 => ?_) (fun c_32 => ?_)
    · exact absurd c_32 (by decide)
    · refine lv_iconst (v := 0) hx hb dX8_ends_35 (by decide) ?_
      have hk : cEnds T xu xh = 1 := by simp [cEnds, c_6, c_32]
      exact k_iret Z X hr hlocks rfl (Nat.le_of_ble_eq_true rfl) (Nat.le_of_ble_eq_true rfl) dX8_ends_36 ⟨fun h => absurd (hk.symm.trans h) (by decide), rfl, by rw [hk, if_neg (by decide)]⟩
theorem dX8_budget_0 : decode cX8_budget 0 = .ok (.iload_n 2, 1) := by decide +kernel
theorem dX8_budget_1 : decode cX8_budget 1 = .ok (.iconst 0, 1) := by decide +kernel
theorem dX8_budget_2 : decode cX8_budget 2 = .ok (.ldc 120, 2) := by decide +kernel
theorem dX8_budget_4 : decode cX8_budget 4 = .ok (.invokestatic 84, 3) := by decide +kernel
theorem dX8_budget_7 : decode cX8_budget 7 = .ok (.istore_n 3, 1) := by decide +kernel
theorem dX8_budget_8 : decode cX8_budget 8 = .ok (.aload_n 0, 1) := by decide +kernel
theorem dX8_budget_9 : decode cX8_budget 9 = .ok (.iload_n 1, 1) := by decide +kernel
theorem dX8_budget_10 : decode cX8_budget 10 = .ok (.invokestatic 121, 3) := by decide +kernel
theorem dX8_budget_13 : decode cX8_budget 13 = .ok (.ifCond .ne 7, 3) := by decide +kernel
theorem dX8_budget_16 : decode cX8_budget 16 = .ok (.iconst 1, 1) := by decide +kernel
theorem dX8_budget_17 : decode cX8_budget 17 = .ok (.goto 29, 3) := by decide +kernel
theorem dX8_budget_20 : decode cX8_budget 20 = .ok (.iload_n 3, 1) := by decide +kernel
theorem dX8_budget_21 : decode cX8_budget 21 = .ok (.ifCond .ne 7, 3) := by decide +kernel
theorem dX8_budget_24 : decode cX8_budget 24 = .ok (.iconst 2, 1) := by decide +kernel
theorem dX8_budget_25 : decode cX8_budget 25 = .ok (.goto 21, 3) := by decide +kernel
theorem dX8_budget_28 : decode cX8_budget 28 = .ok (.aload_n 0, 1) := by decide +kernel
theorem dX8_budget_29 : decode cX8_budget 29 = .ok (.getfield 16, 3) := by decide +kernel
theorem dX8_budget_32 : decode cX8_budget 32 = .ok (.iload_n 1, 1) := by decide +kernel
theorem dX8_budget_33 : decode cX8_budget 33 = .ok (.iaload, 1) := by decide +kernel
theorem dX8_budget_34 : decode cX8_budget 34 = .ok (.iload_n 2, 1) := by decide +kernel
theorem dX8_budget_35 : decode cX8_budget 35 = .ok (.iadd, 1) := by decide +kernel
theorem dX8_budget_36 : decode cX8_budget 36 = .ok (.ldc 124, 2) := by decide +kernel
theorem dX8_budget_38 : decode cX8_budget 38 = .ok (.if_icmp .le 7, 3) := by decide +kernel
theorem dX8_budget_41 : decode cX8_budget 41 = .ok (.iconst 3, 1) := by decide +kernel
theorem dX8_budget_42 : decode cX8_budget 42 = .ok (.goto 4, 3) := by decide +kernel
theorem dX8_budget_45 : decode cX8_budget 45 = .ok (.iconst 0, 1) := by decide +kernel
theorem dX8_budget_46 : decode cX8_budget 46 = .ok (.invokevirtual 111, 3) := by decide +kernel
theorem dX8_budget_49 : decode cX8_budget 49 = .ok (.ifCond .eq 5, 3) := by decide +kernel
theorem dX8_budget_52 : decode cX8_budget 52 = .ok (.iconst 0, 1) := by decide +kernel
theorem dX8_budget_53 : decode cX8_budget 53 = .ok (.ireturn, 1) := by decide +kernel
theorem dX8_budget_54 : decode cX8_budget 54 = .ok (.aload_n 0, 1) := by decide +kernel
theorem dX8_budget_55 : decode cX8_budget 55 = .ok (.getfield 16, 3) := by decide +kernel
theorem dX8_budget_58 : decode cX8_budget 58 = .ok (.iload_n 1, 1) := by decide +kernel
theorem dX8_budget_59 : decode cX8_budget 59 = .ok (.dup2, 1) := by decide +kernel
theorem dX8_budget_60 : decode cX8_budget 60 = .ok (.iaload, 1) := by decide +kernel
theorem dX8_budget_61 : decode cX8_budget 61 = .ok (.iload_n 2, 1) := by decide +kernel
theorem dX8_budget_62 : decode cX8_budget 62 = .ok (.iadd, 1) := by decide +kernel
theorem dX8_budget_63 : decode cX8_budget 63 = .ok (.iastore, 1) := by decide +kernel
theorem dX8_budget_64 : decode cX8_budget 64 = .ok (.aload_n 0, 1) := by decide +kernel
theorem dX8_budget_65 : decode cX8_budget 65 = .ok (.getfield 16, 3) := by decide +kernel
theorem dX8_budget_68 : decode cX8_budget 68 = .ok (.iload_n 1, 1) := by decide +kernel
theorem dX8_budget_69 : decode cX8_budget 69 = .ok (.iaload, 1) := by decide +kernel
theorem dX8_budget_70 : decode cX8_budget 70 = .ok (.ireturn, 1) := by decide +kernel
set_option maxHeartbeats 4000000 in
set_option maxRecDepth 100000 in
theorem c_X8_budget (l : Launch) (E : State) (G : kG) (S T : kSt) (o : Int64) (ad : kAd) (xc xb : Int32) (hT : okN T) : Met l yX8_budget (.code yX8_budget cX8_budget 4 (some .int) :: wsL_law) ({ frames := 4, cells := 0, slots := 0, locals := 90 } : Room) (va_Pc [.ref (ad 16 0), .int xc, .int xb] (kPre E G ad (cto G S T o ad))) (kQi E G (fun r ad1 ct1 => (cBudget T xc xb = 0 → r = T.1 3 (cl xc) + xb) ∧ ad = ad1 ∧ ct1 = cto G S (if cBudget T xc xb = 0 then oBudget (sI T 24 0 0) xc xb else sI T 24 0 (cBudget T xc xb)) o ad)) 0 0 (kB E.heap.size) := by
  refine Met.ofW (cc := cX8_budget) (maxL := 4) (ret := (some .int)) (by decide) rfl ?_
  intro p e s m args below meth c s₁ B hml hv
  obtain ⟨rfl, hM, hK, hW0⟩ := hv
  have hlocks := B.notSynchronized
  have hr := B.returns
  have Z : kZ p m c cX8_budget 4 s _ wsL_law RX8 E G := ⟨⟨B.exec, B.bytes, hml, findClass_of_methodNamed B.named, fun w h => atoms_spec (ws := .code yX8_budget cX8_budget 4 (some .int) :: wsL_law) B.pre w (List.mem_cons_of_mem _ h)⟩, hM, hK⟩
  have hx := Z.1.1
  have hb := Z.1.2.1
  have X := kX.of hW0
  have hl := lv_entry ([.ref (ad 16 0), .int xc, .int xb]) (n := 4) (Nat.le_of_ble_eq_true rfl)
  rw [lg_entry_eq]
  generalize (lg_sl ([.ref (ad 16 0), .int xc, .int xb]) ++ List.replicate (4 - (lg_sl ([.ref (ad 16 0), .int xc, .int xb])).length) Slot.unset).toArray = ls at hl ⊢
  have hl : lv_has ls 4 [(0, .ref (ad 16 0)), (1, .int xc), (2, .int xb)] := hl
  have hT0 := hT
  obtain ⟨hT1, hT2, hT3, hT4, hT5, hT6, hT7⟩ := hT0
  refine lv_iload_n hx hb dX8_budget_0 rfl (lv_at hl 2 rfl) ?_
  refine lv_iconst (v := 0) hx hb dX8_budget_1 (by decide) ?_
  refine lv_ldc (v := 1000000) hx hb Z.1.2.2.2.1 (Z.1.2.2.2.2 _ (inU_14 _ (List.mem_of_getElem? (i := 13) rfl))) dX8_budget_2 ?_
  refine k_Ri X (k_runS (As := [.int xb, .int 0, .int 1000000]) (rest := []) Z X (c_X8_isIn l E G S T o ad xb 0 1000000) (k_cwS 3 Z.1.2.2.2.2 (inU_8 _ (List.mem_of_getElem? (i := 23) rfl)) (inU_9 _ (List.mem_of_getElem? (i := 0) rfl)) (inU_1 _ (List.mem_of_getElem? (i := 5) rfl)) (inU_9 _ (List.mem_of_getElem? (i := 1) rfl)) rfl rfl (by decide +kernel) ⟨Nat.le_of_ble_eq_true rfl, Nat.le_of_ble_eq_true rfl⟩) rfl hl.1 rfl (Nat.le_of_ble_eq_true rfl) dX8_budget_4 ⟨Nat.le_of_ble_eq_true rfl, Nat.le_of_ble_eq_true rfl⟩) (fun r_4 ad1 ct1 H locs hp X => ?_)
  obtain ⟨rfl, rfl, rfl⟩ := hp
  refine lv_istore_n (lv' := [(3, .int (bI (inR xb 0 1000000))), (0, .ref (ad 16 0)), (1, .int xc), (2, .int xb)]) hx hb dX8_budget_7 rfl hl (by decide) rfl (fun ls hl => ?_)
  refine lv_aload_n hx hb dX8_budget_8 rfl (lv_at hl 1 rfl) ?_
  refine lv_iload_n hx hb dX8_budget_9 rfl (lv_at hl 2 rfl) ?_
  refine k_Ri X (k_runS (As := [.int xc]) (rest := [.ref (ad 16 0)]) Z X (c_X8_isChannel l E G S T o ad xc) (k_cwS 1 Z.1.2.2.2.2 (inU_14 _ (List.mem_of_getElem? (i := 15) rfl)) (inU_14 _ (List.mem_of_getElem? (i := 16) rfl)) (inU_1 _ (List.mem_of_getElem? (i := 5) rfl)) (inU_14 _ (List.mem_of_getElem? (i := 17) rfl)) rfl rfl (by decide +kernel) ⟨Nat.le_of_ble_eq_true rfl, Nat.le_of_ble_eq_true rfl⟩) rfl hl.1 rfl (Nat.le_of_ble_eq_true rfl) dX8_budget_10 ⟨Nat.le_of_ble_eq_true rfl, Nat.le_of_ble_eq_true rfl⟩) (fun r_10 ad1 ct1 H locs hp X => ?_)
  obtain ⟨rfl, rfl, rfl⟩ := hp
  refine lv_if_ne (tgt := 20) hx hb dX8_budget_13 (by decide) (fun c_13 => ?_) (fun c_13 => ?_)
  · have c_13 : inB xc 6 = true := (chan_inB xc).symm.trans (bI_1 c_13)
    obtain ⟨jc, hjc, hxc⟩ := inB_of c_13 (by decide)
    subst hxc
    have hcc : cl (nI jc) = jc := nI_clamp (by omega)
    refine lv_iload_n hx hb dX8_budget_20 rfl (lv_at hl 0 rfl) ?_
    refine lv_if_ne (tgt := 28) hx hb dX8_budget_21 (by decide) (fun c_21 => ?_) (fun c_21 => ?_)
    · have c_21 : (inR xb 0 1000000) = true := bI_1 c_21
      refine lv_aload_n hx hb dX8_budget_28 rfl (lv_at hl 1 rfl) ?_
      refine k_get (index := 16) (j := 4) (ad := ad) (k := 16) (i := 0) Z X ct_16 inlX8 rfl (by decide) (inU_6 _ (List.mem_of_getElem? (i := 8) rfl)) (fun _ h => h) (v := .ref (ad 17 2)) rfl dX8_budget_29 ?_
      refine lv_iload_n hx hb dX8_budget_32 rfl (lv_at hl 2 rfl) ?_
      refine k_ild (ad := ad) (k := 17) (i := 2) Z X ct_17_2 (vp_in_nI (by first | assumption | omega) (by decide)) dX8_budget_33 ?_
      refine lv_topi (fun x_33 e_33 => ?_)
      obtain rfl : x_33 = T.1 3 jc := e_33.trans (by first | (simp only [nI_clamp (show jc < 2 ^ 31 by omega)]; done) | (simp only [nI_clamp (show jc < 2 ^ 31 by omega)]; rfl) | (simp only [nI_clamp (show jc < 2 ^ 31 by omega)]; simp [sI, sN]; done))
      refine lv_iload_n hx hb dX8_budget_34 rfl (lv_at hl 3 rfl) ?_
      refine lv_iadd hx hb dX8_budget_35 ?_
      refine lv_ldc (v := 1000000000) hx hb Z.1.2.2.2.1 (Z.1.2.2.2.2 _ (inU_14 _ (List.mem_of_getElem? (i := 14) rfl))) dX8_budget_36 ?_
      refine lv_icmp_le (tgt := 45) hx hb dX8_budget_38 (by decide) (fun c_38 => ?_) (fun c_38 => ?_)
      · have c_38 : ¬ (1000000000 : Int32) < T.1 3 jc + xb := Int32.not_lt.mpr c_38
        refine lv_iconst (v := 0) hx hb dX8_budget_45 (by decide) ?_
        refine k_Ri X (k_runV (As := [.int 0]) (rest := []) Z X (c_X8_fails l E G S T o ad 0) (k_cwV 1 Z.1.2.2.2.2 (inU_9 _ (List.mem_of_getElem? (i := 2) rfl)) (inU_9 _ (List.mem_of_getElem? (i := 3) rfl)) (inU_9 _ (List.mem_of_getElem? (i := 4) rfl)) (inU_1 _ (List.mem_of_getElem? (i := 5) rfl)) (inU_9 _ (List.mem_of_getElem? (i := 5) rfl)) rfl rfl (by decide +kernel) ⟨Nat.le_of_ble_eq_true rfl, Nat.le_of_ble_eq_true rfl⟩) (k_recv Z X ct_16 rfl) rfl hl.1 rfl (Nat.le_of_ble_eq_true rfl) dX8_budget_46 ⟨Nat.le_of_ble_eq_true rfl, Nat.le_of_ble_eq_true rfl⟩) (fun r_46 ad1 ct1 H locs hp X => ?_)
        obtain ⟨rfl, rfl, rfl⟩ := hp
        refine lv_topi (fun x_46 e_46 => ?_)
        obtain rfl : x_46 = 0 := e_46.trans (by decide)
        refine lv_if_eq (tgt := 54) hx hb dX8_budget_49 (by decide) (fun c_49 => ?_) (fun c_49 => ?_)
        · refine lv_aload_n hx hb dX8_budget_54 rfl (lv_at hl 1 rfl) ?_
          refine k_get (index := 16) (j := 4) (ad := ad) (k := 16) (i := 0) Z X ct_16 inlX8 rfl (by decide) (inU_6 _ (List.mem_of_getElem? (i := 8) rfl)) (fun _ h => h) (v := .ref (ad 17 2)) rfl dX8_budget_55 ?_
          refine lv_iload_n hx hb dX8_budget_58 rfl (lv_at hl 2 rfl) ?_
          refine lv_dup2_11 hx hb dX8_budget_59 rfl rfl ?_
          refine k_ild (ad := ad) (k := 17) (i := 2) Z X ct_17_2 (vp_in_nI (by first | assumption | omega) (by decide)) dX8_budget_60 ?_
          refine lv_topi (fun x_60 e_60 => ?_)
          obtain rfl : x_60 = T.1 3 jc := e_60.trans (by first | (simp only [nI_clamp (show jc < 2 ^ 31 by omega)]; done) | (simp only [nI_clamp (show jc < 2 ^ 31 by omega)]; rfl) | (simp only [nI_clamp (show jc < 2 ^ 31 by omega)]; simp [sI, sN]; done))
          refine lv_iload_n hx hb dX8_budget_61 rfl (lv_at hl 3 rfl) ?_
          refine lv_iadd hx hb dX8_budget_62 ?_
          refine k_ist (ad := ad) (k := 17) (i := 2) Z X ct_17_2 (vp_in_nI (by first | assumption | omega) (by decide)) dX8_budget_63 (fun H locs X => ?_)
          have X : kX E G s H locs ad (cto G S (sI (sI T 24 0 0) 3 jc ((T.1 3 jc) + xb)) o ad) := X.eq (st_17_2 _ _ (by omega))
          refine lv_aload_n hx hb dX8_budget_64 rfl (lv_at hl 1 rfl) ?_
          refine k_get (index := 16) (j := 4) (ad := ad) (k := 16) (i := 0) Z X ct_16 inlX8 rfl (by decide) (inU_6 _ (List.mem_of_getElem? (i := 8) rfl)) (fun _ h => h) (v := .ref (ad 17 2)) rfl dX8_budget_65 ?_
          refine lv_iload_n hx hb dX8_budget_68 rfl (lv_at hl 2 rfl) ?_
          refine k_ild (ad := ad) (k := 17) (i := 2) Z X ct_17_2 (vp_in_nI (by first | assumption | omega) (by decide)) dX8_budget_69 ?_
          refine lv_topi (fun x_69 e_69 => ?_)
          obtain rfl : x_69 = (T.1 3 jc) + xb := e_69.trans (by first | (simp only [nI_clamp (show jc < 2 ^ 31 by omega)]; done) | (simp only [nI_clamp (show jc < 2 ^ 31 by omega)]; rfl) | (simp only [nI_clamp (show jc < 2 ^ 31 by omega)]; simp [sI, sN]; done))
          have hk : cBudget T (nI jc) xb = 0 := by simp [cBudget, hcc, c_13, c_21, c_38, c_49]
          exact k_iret Z X hr hlocks rfl (Nat.le_of_ble_eq_true rfl) (Nat.le_of_ble_eq_true rfl) dX8_budget_70 ⟨fun _ => by rw [hcc], rfl, (congrArg (fun z => cto G S z o ad) (show (sI (sI T 24 0 0) 3 jc ((T.1 3 jc) + xb)) = oBudget (sI T 24 0 0) (nI jc) xb from by simp only [oBudget, hcc, sI_f (show (3 : Nat) ≠ 24 by decide)])).trans (by rw [if_pos hk])⟩
        · exact absurd c_49 (by decide)
      · have c_38 : (1000000000 : Int32) < T.1 3 jc + xb := Int32.not_le.mp c_38
        refine lv_iconst (v := 3) hx hb dX8_budget_41 (by decide) ?_
        refine lv_goto (tgt := 46) hx hb dX8_budget_42 (by decide) ?_
        refine k_Ri X (k_runV (As := [.int 3]) (rest := []) Z X (c_X8_fails l E G S T o ad 3) (k_cwV 1 Z.1.2.2.2.2 (inU_9 _ (List.mem_of_getElem? (i := 2) rfl)) (inU_9 _ (List.mem_of_getElem? (i := 3) rfl)) (inU_9 _ (List.mem_of_getElem? (i := 4) rfl)) (inU_1 _ (List.mem_of_getElem? (i := 5) rfl)) (inU_9 _ (List.mem_of_getElem? (i := 5) rfl)) rfl rfl (by decide +kernel) ⟨Nat.le_of_ble_eq_true rfl, Nat.le_of_ble_eq_true rfl⟩) (k_recv Z X ct_16 rfl) rfl hl.1 rfl (Nat.le_of_ble_eq_true rfl) dX8_budget_46 ⟨Nat.le_of_ble_eq_true rfl, Nat.le_of_ble_eq_true rfl⟩) (fun r_46 ad1 ct1 H locs hp X => ?_)
        obtain ⟨rfl, rfl, rfl⟩ := hp
        refine lv_topi (fun x_46 e_46 => ?_)
        obtain rfl : x_46 = 1 := e_46.trans (by decide)
        refine lv_if_eq (tgt := 54) hx hb dX8_budget_49 (by decide) (fun c_49 => ?_) (fun c_49 => ?_)
        · exact absurd c_49 (by decide)
        · refine lv_iconst (v := 0) hx hb dX8_budget_52 (by decide) ?_
          have hk : cBudget T (nI jc) xb = 3 := by simp [cBudget, hcc, c_13, c_21, c_38, c_49]
          exact k_iret Z X hr hlocks rfl (Nat.le_of_ble_eq_true rfl) (Nat.le_of_ble_eq_true rfl) dX8_budget_53 ⟨fun h => absurd (hk.symm.trans h) (by decide), rfl, by rw [hk, if_neg (by decide)]⟩
    · have c_21 : (inR xb 0 1000000) = false := bI_0 c_21
      refine lv_iconst (v := 2) hx hb dX8_budget_24 (by decide) ?_
      refine lv_goto (tgt := 46) hx hb dX8_budget_25 (by decide) ?_
      refine k_Ri X (k_runV (As := [.int 2]) (rest := []) Z X (c_X8_fails l E G S T o ad 2) (k_cwV 1 Z.1.2.2.2.2 (inU_9 _ (List.mem_of_getElem? (i := 2) rfl)) (inU_9 _ (List.mem_of_getElem? (i := 3) rfl)) (inU_9 _ (List.mem_of_getElem? (i := 4) rfl)) (inU_1 _ (List.mem_of_getElem? (i := 5) rfl)) (inU_9 _ (List.mem_of_getElem? (i := 5) rfl)) rfl rfl (by decide +kernel) ⟨Nat.le_of_ble_eq_true rfl, Nat.le_of_ble_eq_true rfl⟩) (k_recv Z X ct_16 rfl) rfl hl.1 rfl (Nat.le_of_ble_eq_true rfl) dX8_budget_46 ⟨Nat.le_of_ble_eq_true rfl, Nat.le_of_ble_eq_true rfl⟩) (fun r_46 ad1 ct1 H locs hp X => ?_)
      obtain ⟨rfl, rfl, rfl⟩ := hp
      refine lv_topi (fun x_46 e_46 => ?_)
      obtain rfl : x_46 = 1 := e_46.trans (by decide)
      refine lv_if_eq (tgt := 54) hx hb dX8_budget_49 (by decide) (fun c_49 => ?_) (fun c_49 => ?_)
      · exact absurd c_49 (by decide)
      · refine lv_iconst (v := 0) hx hb dX8_budget_52 (by decide) ?_
        have hk : cBudget T (nI jc) xb = 2 := by simp [cBudget, hcc, c_13, c_21, c_49]
        exact k_iret Z X hr hlocks rfl (Nat.le_of_ble_eq_true rfl) (Nat.le_of_ble_eq_true rfl) dX8_budget_53 ⟨fun h => absurd (hk.symm.trans h) (by decide), rfl, by rw [hk, if_neg (by decide)]⟩
  · have c_13 : inB xc 6 = false := (chan_inB xc).symm.trans (bI_0 c_13)
    refine lv_iconst (v := 1) hx hb dX8_budget_16 (by decide) ?_
    refine lv_goto (tgt := 46) hx hb dX8_budget_17 (by decide) ?_
    refine k_Ri X (k_runV (As := [.int 1]) (rest := []) Z X (c_X8_fails l E G S T o ad 1) (k_cwV 1 Z.1.2.2.2.2 (inU_9 _ (List.mem_of_getElem? (i := 2) rfl)) (inU_9 _ (List.mem_of_getElem? (i := 3) rfl)) (inU_9 _ (List.mem_of_getElem? (i := 4) rfl)) (inU_1 _ (List.mem_of_getElem? (i := 5) rfl)) (inU_9 _ (List.mem_of_getElem? (i := 5) rfl)) rfl rfl (by decide +kernel) ⟨Nat.le_of_ble_eq_true rfl, Nat.le_of_ble_eq_true rfl⟩) (k_recv Z X ct_16 rfl) rfl hl.1 rfl (Nat.le_of_ble_eq_true rfl) dX8_budget_46 ⟨Nat.le_of_ble_eq_true rfl, Nat.le_of_ble_eq_true rfl⟩) (fun r_46 ad1 ct1 H locs hp X => ?_)
    obtain ⟨rfl, rfl, rfl⟩ := hp
    refine lv_topi (fun x_46 e_46 => ?_)
    obtain rfl : x_46 = 1 := e_46.trans (by decide)
    refine lv_if_eq (tgt := 54) hx hb dX8_budget_49 (by decide) (fun c_49 => ?_) (fun c_49 => ?_)
    · exact absurd c_49 (by decide)
    · refine lv_iconst (v := 0) hx hb dX8_budget_52 (by decide) ?_
      have hk : cBudget T xc xb = 1 := by simp [cBudget, c_13, c_49]
      exact k_iret Z X hr hlocks rfl (Nat.le_of_ble_eq_true rfl) (Nat.le_of_ble_eq_true rfl) dX8_budget_53 ⟨fun h => absurd (hk.symm.trans h) (by decide), rfl, by rw [hk, if_neg (by decide)]⟩
