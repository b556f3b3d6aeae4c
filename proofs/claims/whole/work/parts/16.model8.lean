theorem itP_r (S : kSt) (kd : Nat → Nat → Int32) : ∀ n, (itP S kd n).2 = S.2 ∧ ∀ f j, f ≠ 12 → f ≠ 3 → f ≠ 0 → (itP S kd n).1 f j = S.1 f j
  | 0 => ⟨rfl, fun _ _ _ _ _ => rfl⟩
  | n + 1 => by
    obtain ⟨h1, h2⟩ := itP_r S kd n
    obtain ⟨g1, g2, -⟩ := stl_r (sI (itP S kd n) 0 0 ((itP S kd n).1 0 0 + 1)) kd (S.2 0 2)
    exact ⟨g1.trans h1, fun f j a b c => (g2 f j a b).trans ((sI_f c).trans (h2 f j a b c))⟩
theorem dX8_archive_0 : decode cX8_archive 0 = .ok (.aload_n 0, 1) := by decide +kernel
theorem dX8_archive_1 : decode cX8_archive 1 = .ok (.iload_n 1, 1) := by decide +kernel
theorem dX8_archive_2 : decode cX8_archive 2 = .ok (.invokestatic 121, 3) := by decide +kernel
theorem dX8_archive_5 : decode cX8_archive 5 = .ok (.ifCond .ne 7, 3) := by decide +kernel
theorem dX8_archive_8 : decode cX8_archive 8 = .ok (.iconst 1, 1) := by decide +kernel
theorem dX8_archive_9 : decode cX8_archive 9 = .ok (.goto 17, 3) := by decide +kernel
theorem dX8_archive_12 : decode cX8_archive 12 = .ok (.aload_n 0, 1) := by decide +kernel
theorem dX8_archive_13 : decode cX8_archive 13 = .ok (.getfield 19, 3) := by decide +kernel
theorem dX8_archive_16 : decode cX8_archive 16 = .ok (.iload_n 1, 1) := by decide +kernel
theorem dX8_archive_17 : decode cX8_archive 17 = .ok (.baload, 1) := by decide +kernel
theorem dX8_archive_18 : decode cX8_archive 18 = .ok (.ifCond .eq 7, 3) := by decide +kernel
theorem dX8_archive_21 : decode cX8_archive 21 = .ok (.iconst 2, 1) := by decide +kernel
theorem dX8_archive_22 : decode cX8_archive 22 = .ok (.goto 4, 3) := by decide +kernel
theorem dX8_archive_25 : decode cX8_archive 25 = .ok (.iconst 0, 1) := by decide +kernel
theorem dX8_archive_26 : decode cX8_archive 26 = .ok (.invokevirtual 111, 3) := by decide +kernel
theorem dX8_archive_29 : decode cX8_archive 29 = .ok (.ifCond .eq 5, 3) := by decide +kernel
theorem dX8_archive_32 : decode cX8_archive 32 = .ok (.iconst 0, 1) := by decide +kernel
theorem dX8_archive_33 : decode cX8_archive 33 = .ok (.ireturn, 1) := by decide +kernel
theorem dX8_archive_34 : decode cX8_archive 34 = .ok (.iconst 0, 1) := by decide +kernel
theorem dX8_archive_35 : decode cX8_archive 35 = .ok (.istore_n 2, 1) := by decide +kernel
theorem dX8_archive_36 : decode cX8_archive 36 = .ok (.aload_n 0, 1) := by decide +kernel
theorem dX8_archive_37 : decode cX8_archive 37 = .ok (.getfield 91, 3) := by decide +kernel
theorem dX8_archive_40 : decode cX8_archive 40 = .ok (.iconst 1, 1) := by decide +kernel
theorem dX8_archive_41 : decode cX8_archive 41 = .ok (.isub, 1) := by decide +kernel
theorem dX8_archive_42 : decode cX8_archive 42 = .ok (.istore_n 3, 1) := by decide +kernel
theorem dX8_archive_43 : decode cX8_archive 43 = .ok (.iload_n 3, 1) := by decide +kernel
theorem dX8_archive_44 : decode cX8_archive 44 = .ok (.ifCond .lt 37, 3) := by decide +kernel
theorem dX8_archive_47 : decode cX8_archive 47 = .ok (.aload_n 0, 1) := by decide +kernel
theorem dX8_archive_48 : decode cX8_archive 48 = .ok (.getfield 26, 3) := by decide +kernel
theorem dX8_archive_51 : decode cX8_archive 51 = .ok (.iload_n 3, 1) := by decide +kernel
theorem dX8_archive_52 : decode cX8_archive 52 = .ok (.iaload, 1) := by decide +kernel
theorem dX8_archive_53 : decode cX8_archive 53 = .ok (.iload_n 1, 1) := by decide +kernel
theorem dX8_archive_54 : decode cX8_archive 54 = .ok (.if_icmp .ne 21, 3) := by decide +kernel
theorem dX8_archive_57 : decode cX8_archive 57 = .ok (.aload_n 0, 1) := by decide +kernel
theorem dX8_archive_58 : decode cX8_archive 58 = .ok (.iload_n 3, 1) := by decide +kernel
theorem dX8_archive_59 : decode cX8_archive 59 = .ok (.invokevirtual 138, 3) := by decide +kernel
theorem dX8_archive_62 : decode cX8_archive 62 = .ok (.ifCond .eq 13, 3) := by decide +kernel
theorem dX8_archive_65 : decode cX8_archive 65 = .ok (.aload_n 0, 1) := by decide +kernel
theorem dX8_archive_66 : decode cX8_archive 66 = .ok (.getfield 38, 3) := by decide +kernel
theorem dX8_archive_69 : decode cX8_archive 69 = .ok (.iload_n 3, 1) := by decide +kernel
theorem dX8_archive_70 : decode cX8_archive 70 = .ok (.iconst 1, 1) := by decide +kernel
theorem dX8_archive_71 : decode cX8_archive 71 = .ok (.bastore, 1) := by decide +kernel
theorem dX8_archive_72 : decode cX8_archive 72 = .ok (.iinc 2 1, 3) := by decide +kernel
theorem dX8_archive_75 : decode cX8_archive 75 = .ok (.iinc 3 (-1), 3) := by decide +kernel
theorem dX8_archive_78 : decode cX8_archive 78 = .ok (.goto (-35), 3) := by decide +kernel
theorem dX8_archive_81 : decode cX8_archive 81 = .ok (.iload_n 2, 1) := by decide +kernel
theorem dX8_archive_82 : decode cX8_archive 82 = .ok (.ireturn, 1) := by decide +kernel
set_option maxHeartbeats 4000000 in
set_option maxRecDepth 100000 in
theorem c_X8_archive (l : Launch) (E : State) (G : kG) (S T : kSt) (o : Int64) (ad : kAd) (xc : Int32) (hT : okN T) : Met l yX8_archive (.code yX8_archive cX8_archive 4 (some .int) :: wsL_law) ({ frames := 4, cells := 0, slots := 0, locals := 90 } : Room) (va_Pc [.ref (ad 16 0), .int xc] (kPre E G ad (cto G S T o ad))) (kQi E G (fun r ad1 ct1 => (cArch T xc = 0 → r = nI (arcN (sI T 24 0 0) (cl xc) (T.2 0 1))) ∧ ad = ad1 ∧ ct1 = cto G S (if cArch T xc = 0 then arcS (sI T 24 0 0) (cl xc) (T.2 0 1) else sI T 24 0 (cArch T xc)) o ad)) 0 0 (kB E.heap.size) := by
  refine Met.ofW (cc := cX8_archive) (maxL := 4) (ret := (some .int)) (by decide) rfl ?_
  intro p e s m args below meth c s₁ B hml hv
  obtain ⟨rfl, hM, hK, hW0⟩ := hv
  have hlocks := B.notSynchronized
  have hr := B.returns
  have Z : kZ p m c cX8_archive 4 s _ wsL_law RX8 E G := ⟨⟨B.exec, B.bytes, hml, findClass_of_methodNamed B.named, fun w h => atoms_spec (ws := .code yX8_archive cX8_archive 4 (some .int) :: wsL_law) B.pre w (List.mem_cons_of_mem _ h)⟩, hM, hK⟩
  have hx := Z.1.1
  have hb := Z.1.2.1
  have X := kX.of hW0
  have hl := lv_entry ([.ref (ad 16 0), .int xc]) (n := 4) (Nat.le_of_ble_eq_true rfl)
  rw [lg_entry_eq]
  generalize (lg_sl ([.ref (ad 16 0), .int xc]) ++ List.replicate (4 - (lg_sl ([.ref (ad 16 0), .int xc])).length) Slot.unset).toArray = ls at hl ⊢
  have hl : lv_has ls 4 [(0, .ref (ad 16 0)), (1, .int xc)] := hl
  have hT0 := hT
  obtain ⟨hT1, hT2, hT3, hT4, hT5, hT6, hT7⟩ := hT0
  refine lv_aload_n hx hb dX8_archive_0 rfl (lv_at hl 0 rfl) ?_
  refine lv_iload_n hx hb dX8_archive_1 rfl (lv_at hl 1 rfl) ?_
  refine k_Ri X (k_runS (As := [.int xc]) (rest := [.ref (ad 16 0)]) Z X (c_X8_isChannel l E G S T o ad xc) (k_cwS 1 Z.1.2.2.2.2 (inU_14 _ (List.mem_of_getElem? (i := 15) rfl)) (inU_14 _ (List.mem_of_getElem? (i := 16) rfl)) (inU_1 _ (List.mem_of_getElem? (i := 5) rfl)) (inU_14 _ (List.mem_of_getElem? (i := 17) rfl)) rfl rfl (by decide +kernel) ⟨Nat.le_of_ble_eq_true rfl, Nat.le_of_ble_eq_true rfl⟩) rfl hl.1 rfl (Nat.le_of_ble_eq_true rfl) dX8_archive_2 ⟨Nat.le_of_ble_eq_true rfl, Nat.le_of_ble_eq_true rfl⟩) (fun r_2 ad1 ct1 H locs hp X => ?_)
  obtain ⟨rfl, rfl, rfl⟩ := hp
  refine lv_if_ne (tgt := 12) hx hb dX8_archive_5 (by decide) (fun c_5 => ?_) (fun c_5 => ?_)
  · have c_5 : inB xc 6 = true := (chan_inB xc).symm.trans (bI_1 c_5)
    obtain ⟨jc, hjc, hxc⟩ := inB_of c_5 (by decide)
    subst hxc
    have hcc : cl (nI jc) = jc := nI_clamp (by omega)
    refine lv_aload_n hx hb dX8_archive_12 rfl (lv_at hl 0 rfl) ?_
    refine k_get (index := 19) (j := 5) (ad := ad) (k := 16) (i := 0) Z X ct_16 inlX8 rfl (by decide) (inU_6 _ (List.mem_of_getElem? (i := 10) rfl)) (fun _ h => h) (v := .ref (ad 17 3)) rfl dX8_archive_13 ?_
    refine lv_iload_n hx hb dX8_archive_16 rfl (lv_at hl 1 rfl) ?_
    refine k_zld (ad := ad) (k := 17) (i := 3) Z X ct_17_3 (vp_in_nI (by first | assumption | omega) (by decide)) dX8_archive_17 ?_
    refine lv_topi (fun x_17 e_17 => ?_)
    obtain rfl : x_17 = T.1 4 jc := e_17.trans (by first | (simp only [nI_clamp (show jc < 2 ^ 31 by omega)]; done) | (simp only [nI_clamp (show jc < 2 ^ 31 by omega)]; rfl) | (simp only [nI_clamp (show jc < 2 ^ 31 by omega)]; simp [sI, sN]; done))
    refine lv_if_eq (tgt := 25) hx hb dX8_archive_18 (by decide) (fun c_18 => ?_) (fun c_18 => ?_)
    · refine lv_iconst (v := 0) hx hb dX8_archive_25 (by decide) ?_
      refine k_Ri X (k_runV (As := [.int 0]) (rest := []) Z X (c_X8_fails l E G S T o ad 0) (k_cwV 1 Z.1.2.2.2.2 (inU_9 _ (List.mem_of_getElem? (i := 2) rfl)) (inU_9 _ (List.mem_of_getElem? (i := 3) rfl)) (inU_9 _ (List.mem_of_getElem? (i := 4) rfl)) (inU_1 _ (List.mem_of_getElem? (i := 5) rfl)) (inU_9 _ (List.mem_of_getElem? (i := 5) rfl)) rfl rfl (by decide +kernel) ⟨Nat.le_of_ble_eq_true rfl, Nat.le_of_ble_eq_true rfl⟩) (k_recv Z X ct_16 rfl) rfl hl.1 rfl (Nat.le_of_ble_eq_true rfl) dX8_archive_26 ⟨Nat.le_of_ble_eq_true rfl, Nat.le_of_ble_eq_true rfl⟩) (fun r_26 ad1 ct1 H locs hp X => ?_)
      obtain ⟨rfl, rfl, rfl⟩ := hp
      refine lv_topi (fun x_26 e_26 => ?_)
      obtain rfl : x_26 = 0 := e_26.trans (by decide)
      refine lv_if_eq (tgt := 34) hx hb dX8_archive_29 (by decide) (fun c_29 => ?_) (fun c_29 => ?_)
      · refine lv_iconst (v := 0) hx hb dX8_archive_34 (by decide) ?_
        refine lv_istore_n (lv' := [(2, .int 0), (0, .ref (ad 16 0)), (1, .int (nI jc))]) hx hb dX8_archive_35 rfl hl (by decide) rfl (fun ls hl => ?_)
        refine lv_aload_n hx hb dX8_archive_36 rfl (lv_at hl 1 rfl) ?_
        refine k_get (index := 91) (j := 6) (ad := ad) (k := 16) (i := 0) Z X ct_16 inlX8 rfl (by decide) (inU_16 _ (List.mem_of_getElem? (i := 12) rfl)) (fun _ h => h) (v := .int (nI (T.2 0 1))) rfl dX8_archive_37 ?_
        refine lv_iconst (v := 1) hx hb dX8_archive_40 (by decide) ?_
        refine lv_isub hx hb dX8_archive_41 ?_
        refine lv_istore_n (lv' := [(3, .int ((nI (T.2 0 1)) - 1)), (2, .int 0), (0, .ref (ad 16 0)), (1, .int (nI jc))]) hx hb dX8_archive_42 rfl hl (by decide) rfl (fun ls hl => ?_)
        have LOOP_43 : ∀ (d : Nat) (Tn : kSt) (n : Nat) (q : Nat), Tn.2 = T.2 → arcS Tn jc n = arcS (sI T 24 0 0) jc (T.2 0 1) → q + arcN Tn jc n = arcN (sI T 24 0 0) jc (T.2 0 1) → n ≤ T.2 0 1 → q + n ≤ T.2 0 1 → n < d → ∀ (H : Heap) (locs : List Loc) (ls : Array Slot), kX E G s H locs ad (cto G S Tn o ad) → lv_has ls 4 [(3, .int (nI n - 1)), (2, .int (nI q)), (0, .ref (ad 16 0)), (1, .int (nI jc))] → W p l e (headSpec (Cond.code yX8_archive cX8_archive 4 (some .int) :: wsL_law) ({ frames := 4, cells := 0, slots := 0, locals := 90 } : Room)).room s m ([.ref (ad 16 0), .int (nI jc)] : List Value).toArray below meth c H locs 0 0 (MQ below (kQi E G (fun r ad1 ct1 => (cArch T (nI jc) = 0 → r = nI (arcN (sI T 24 0 0) (cl (nI jc)) (T.2 0 1))) ∧ ad = ad1 ∧ ct1 = cto G S (if cArch T (nI jc) = 0 then arcS (sI T 24 0 0) (cl (nI jc)) (T.2 0 1) else sI T 24 0 (cArch T (nI jc))) o ad)) ([.ref (ad 16 0), .int (nI jc)] : List Value).toArray s 0 0 (kB E.heap.size)) (F0 m 43 ls []) := by
          intro d
          induction d with
          | zero => intro Tn n q k2 k1 k3 k4 k5 hd; intros; exact absurd hd (by omega)
          | succ d ih =>
            intro Tn n q k2 k1 k3 k4 k5 hd H locs ls X hl
            have ih0 := ih
            refine lv_iload_n hx hb dX8_archive_43 rfl (lv_at hl 0 rfl) ?_
            refine lv_if_lt (tgt := 81) hx hb dX8_archive_44 (by decide) (fun c_44 => ?_) (fun c_44 => ?_)
            · have c_44 : n = 0 := (m1_lt (by omega)).mp c_44
              subst c_44
              refine lv_iload_n hx hb dX8_archive_81 rfl (lv_at hl 1 rfl) ?_
              have hk : cArch T (nI jc) = 0 := by simp [cArch, hcc, c_5, c_18, c_29, c_44]
              exact k_iret Z X hr hlocks rfl (Nat.le_of_ble_eq_true rfl) (Nat.le_of_ble_eq_true rfl) dX8_archive_82 ⟨fun _ => by rw [hcc, ← k3]; rfl, rfl, (congrArg (fun z => cto G S z o ad) (show Tn = arcS (sI T 24 0 0) (cl (nI jc)) (T.2 0 1) from by rw [hcc]; exact k1)).trans (by rw [if_pos hk])⟩
            · obtain ⟨z, rfl⟩ : ∃ z, n = z + 1 := ⟨n - 1, by have : n ≠ 0 := fun h => c_44 ((m1_lt (by omega)).mpr h); omega⟩
              rw [nI_pred] at hl
              have h5 := hT5 z (by omega)
              refine lv_aload_n hx hb dX8_archive_47 rfl (lv_at hl 2 rfl) ?_
              refine k_get (index := 26) (j := 8) (ad := ad) (k := 16) (i := 0) Z X ct_16 inlX8 rfl (by decide) (inU_6 _ (List.mem_of_getElem? (i := 12) rfl)) (fun _ h => h) (v := .ref (ad 17 5)) rfl dX8_archive_48 ?_
              refine lv_iload_n hx hb dX8_archive_51 rfl (lv_at hl 0 rfl) ?_
              refine k_ild (ad := ad) (k := 17) (i := 5) Z X ct_17_5 (vp_in_nI (by first | assumption | omega) (by decide)) dX8_archive_52 ?_
              refine lv_topi (fun x_52 e_52 => ?_)
              obtain rfl : x_52 = nI (Tn.2 2 z) := e_52.trans (by first | (simp only [nI_clamp (show z < 2 ^ 31 by omega)]; done) | (simp only [nI_clamp (show z < 2 ^ 31 by omega)]; rfl) | (simp only [nI_clamp (show z < 2 ^ 31 by omega)]; simp [sI, sN]; done))
              refine lv_topi (fun x_52 e_52 => ?_)
              obtain rfl : x_52 = nI (T.2 2 z) := e_52.trans (by rw [k2])
              refine lv_iload_n hx hb dX8_archive_53 rfl (lv_at hl 3 rfl) ?_
              refine lv_icmp_ne (tgt := 75) hx hb dX8_archive_54 (by decide) (fun c_54 => ?_) (fun c_54 => ?_)
              · have c_54 : ¬ (T.2 2 z) = jc := fun h => c_54 ((nI_eq (a := (T.2 2 z)) (b := jc) (by omega) (by omega)).mpr h)
                refine lv_iinc (v := (nI z - 1)) (lv' := [(3, .int (nI z - 1)), (2, .int (nI q)), (0, .ref (ad 16 0)), (1, .int (nI jc))]) hx hb dX8_archive_75 hl (k := 0) rfl (by rw [Int32.sub_eq_add_neg]; rfl) (by decide) rfl (fun ls hl => ?_)
                refine lv_goto (tgt := 43) hx hb dX8_archive_78 (by decide) ?_
                have hc : ¬ (Tn.2 2 z = jc ∧ canA Tn z = true) := fun h => c_54 (by have h1 := h.1; rw [k2] at h1; exact h1)
                have kA : arcS Tn jc z = arcS (sI T 24 0 0) jc (T.2 0 1) := by rw [← k1, arcS, if_neg hc]
                have kN : q + arcN Tn jc z = arcN (sI T 24 0 0) jc (T.2 0 1) := by rw [← k3, arcN, if_neg hc]
                exact ih Tn z q k2 kA kN (by omega) (by omega) (by omega) _ _ _ X (lv_sub hl [0, 1, 2, 3] rfl)
              · have c_54 : (T.2 2 z) = jc := (nI_eq (a := (T.2 2 z)) (b := jc) (by omega) (by omega)).mp c_54
                refine lv_aload_n hx hb dX8_archive_57 rfl (lv_at hl 2 rfl) ?_
                refine lv_iload_n hx hb dX8_archive_58 rfl (lv_at hl 0 rfl) ?_
                refine k_Ri X (k_runV (As := [.int (nI z)]) (rest := []) Z X (c_X8_canArchive l E G S Tn o ad z (by rw [k2]; omega) (by simp only [okN, k2]; exact hT)) (k_cwV 1 Z.1.2.2.2.2 (inU_32 _ (List.mem_of_getElem? (i := 1) rfl)) (inU_32 _ (List.mem_of_getElem? (i := 2) rfl)) (inU_32 _ (List.mem_of_getElem? (i := 3) rfl)) (inU_1 _ (List.mem_of_getElem? (i := 5) rfl)) (inU_32 _ (List.mem_of_getElem? (i := 4) rfl)) rfl rfl (by decide +kernel) ⟨Nat.le_of_ble_eq_true rfl, Nat.le_of_ble_eq_true rfl⟩) (k_recv Z X ct_16 rfl) rfl hl.1 rfl (Nat.le_of_ble_eq_true rfl) dX8_archive_59 ⟨Nat.le_of_ble_eq_true rfl, Nat.le_of_ble_eq_true rfl⟩) (fun r_59 ad1 ct1 H locs hp X => ?_)
                obtain ⟨rfl, rfl, rfl⟩ := hp
                refine lv_if_eq (tgt := 75) hx hb dX8_archive_62 (by decide) (fun c_62 => ?_) (fun c_62 => ?_)
                · have c_62 : (canA Tn z) = false := bI_0 c_62
                  refine lv_iinc (v := (nI z - 1)) (lv' := [(3, .int (nI z - 1)), (2, .int (nI q)), (0, .ref (ad 16 0)), (1, .int (nI jc))]) hx hb dX8_archive_75 hl (k := 0) rfl (by rw [Int32.sub_eq_add_neg]; rfl) (by decide) rfl (fun ls hl => ?_)
                  refine lv_goto (tgt := 43) hx hb dX8_archive_78 (by decide) ?_
                  have hc : ¬ (Tn.2 2 z = jc ∧ canA Tn z = true) := fun h => by rw [c_62] at h; exact absurd h.2 (by decide)
                  have kA : arcS Tn jc z = arcS (sI T 24 0 0) jc (T.2 0 1) := by rw [← k1, arcS, if_neg hc]
                  have kN : q + arcN Tn jc z = arcN (sI T 24 0 0) jc (T.2 0 1) := by rw [← k3, arcN, if_neg hc]
                  exact ih Tn z q k2 kA kN (by omega) (by omega) (by omega) _ _ _ X (lv_sub hl [0, 1, 2, 3] rfl)
                · have c_62 : (canA Tn z) = true := bI_1 c_62
                  refine lv_aload_n hx hb dX8_archive_65 rfl (lv_at hl 2 rfl) ?_
                  refine k_get (index := 38) (j := 12) (ad := ad) (k := 16) (i := 0) Z X ct_16 inlX8 rfl (by decide) (inU_6 _ (List.mem_of_getElem? (i := 16) rfl)) (fun _ h => h) (v := .ref (ad 17 9)) rfl dX8_archive_66 ?_
                  refine lv_iload_n hx hb dX8_archive_69 rfl (lv_at hl 0 rfl) ?_
                  refine lv_iconst (v := 1) hx hb dX8_archive_70 (by decide) ?_
                  refine k_zst (ad := ad) (k := 17) (i := 9) Z X ct_17_9 (vp_in_nI (by first | assumption | omega) (by decide)) (Or.inr rfl) dX8_archive_71 (fun H locs X => ?_)
                  have X : kX E G s H locs ad (cto G S (sI Tn 8 z 1) o ad) := X.eq (st_17_9 _ _ (by omega))
                  refine lv_iinc (v := (nI (q + 1))) (lv' := [(2, .int (nI (q + 1))), (3, .int (nI z)), (0, .ref (ad 16 0)), (1, .int (nI jc))]) hx hb dX8_archive_72 hl (k := 1) rfl (nI_1 _) (by decide) rfl (fun ls hl => ?_)
                  refine lv_iinc (v := (nI z - 1)) (lv' := [(3, .int (nI z - 1)), (2, .int (nI (q + 1))), (0, .ref (ad 16 0)), (1, .int (nI jc))]) hx hb dX8_archive_75 hl (k := 1) rfl (by rw [Int32.sub_eq_add_neg]; rfl) (by decide) rfl (fun ls hl => ?_)
                  refine lv_goto (tgt := 43) hx hb dX8_archive_78 (by decide) ?_
                  have hc : Tn.2 2 z = jc ∧ canA Tn z = true := ⟨by rw [k2]; exact c_54, c_62⟩
                  have kA : arcS (sI Tn 8 z 1) jc z = arcS (sI T 24 0 0) jc (T.2 0 1) := by rw [← k1, arcS, if_pos hc]
                  have kN : (q + 1) + arcN (sI Tn 8 z 1) jc z = arcN (sI T 24 0 0) jc (T.2 0 1) := by rw [← k3, arcN, if_pos hc]; omega
                  exact ih (sI Tn 8 z 1) z (q + 1) k2 kA kN (by omega) (by omega) (by omega) _ _ _ X (lv_sub hl [0, 1, 2, 3] rfl)
        exact LOOP_43 (T.2 0 1 + 1) (sI T 24 0 0) (T.2 0 1) 0 rfl rfl (Nat.zero_add _) (Nat.le_refl _) (by omega) (by omega) _ _ _ X (lv_sub hl [0, 1, 2, 3] rfl)
      · exact absurd c_29 (by decide)
    · refine lv_iconst (v := 2) hx hb dX8_archive_21 (by decide) ?_
      refine lv_goto (tgt := 26) hx hb dX8_archive_22 (by decide) ?_
      refine k_Ri X (k_runV (As := [.int 2]) (rest := []) Z X (c_X8_fails l E G S T o ad 2) (k_cwV 1 Z.1.2.2.2.2 (inU_9 _ (List.mem_of_getElem? (i := 2) rfl)) (inU_9 _ (List.mem_of_getElem? (i := 3) rfl)) (inU_9 _ (List.mem_of_getElem? (i := 4) rfl)) (inU_1 _ (List.mem_of_getElem? (i := 5) rfl)) (inU_9 _ (List.mem_of_getElem? (i := 5) rfl)) rfl rfl (by decide +kernel) ⟨Nat.le_of_ble_eq_true rfl, Nat.le_of_ble_eq_true rfl⟩) (k_recv Z X ct_16 rfl) rfl hl.1 rfl (Nat.le_of_ble_eq_true rfl) dX8_archive_26 ⟨Nat.le_of_ble_eq_true rfl, Nat.le_of_ble_eq_true rfl⟩) (fun r_26 ad1 ct1 H locs hp X => ?_)
      obtain ⟨rfl, rfl, rfl⟩ := hp
      refine lv_topi (fun x_26 e_26 => ?_)
      obtain rfl : x_26 = 1 := e_26.trans (by decide)
      refine lv_if_eq (tgt := 34) hx hb dX8_archive_29 (by decide) (fun c_29 => ?_) (fun c_29 => ?_)
      · exact absurd c_29 (by decide)
      · refine lv_iconst (v := 0) hx hb dX8_archive_32 (by decide) ?_
        have hk : cArch T (nI jc) = 2 := by simp [cArch, hcc, c_5, c_18, c_29]
        exact k_iret Z X hr hlocks rfl (Nat.le_of_ble_eq_true rfl) (Nat.le_of_ble_eq_true rfl) dX8_archive_33 ⟨fun h => absurd (hk.symm.trans h) (by decide), rfl, by rw [hk, if_neg (by decide)]⟩
  · have c_5 : inB xc 6 = false := (chan_inB xc).symm.trans (bI_0 c_5)
    refine lv_iconst (v := 1) hx hb dX8_archive_8 (by decide) ?_
    refine lv_goto (tgt := 26) hx hb dX8_archive_9 (by decide) ?_
    refine k_Ri X (k_runV (As := [.int 1]) (rest := []) Z X (c_X8_fails l E G S T o ad 1) (k_cwV 1 Z.1.2.2.2.2 (inU_9 _ (List.mem_of_getElem? (i := 2) rfl)) (inU_9 _ (List.mem_of_getElem? (i := 3) rfl)) (inU_9 _ (List.mem_of_getElem? (i := 4) rfl)) (inU_1 _ (List.mem_of_getElem? (i := 5) rfl)) (inU_9 _ (List.mem_of_getElem? (i := 5) rfl)) rfl rfl (by decide +kernel) ⟨Nat.le_of_ble_eq_true rfl, Nat.le_of_ble_eq_true rfl⟩) (k_recv Z X ct_16 rfl) rfl hl.1 rfl (Nat.le_of_ble_eq_true rfl) dX8_archive_26 ⟨Nat.le_of_ble_eq_true rfl, Nat.le_of_ble_eq_true rfl⟩) (fun r_26 ad1 ct1 H locs hp X => ?_)
    obtain ⟨rfl, rfl, rfl⟩ := hp
    refine lv_topi (fun x_26 e_26 => ?_)
    obtain rfl : x_26 = 1 := e_26.trans (by decide)
    refine lv_if_eq (tgt := 34) hx hb dX8_archive_29 (by decide) (fun c_29 => ?_) (fun c_29 => ?_)
    · exact absurd c_29 (by decide)
    · refine lv_iconst (v := 0) hx hb dX8_archive_32 (by decide) ?_
      have hk : cArch T xc = 1 := by simp [cArch, c_5, c_29]
      exact k_iret Z X hr hlocks rfl (Nat.le_of_ble_eq_true rfl) (Nat.le_of_ble_eq_true rfl) dX8_archive_33 ⟨fun h => absurd (hk.symm.trans h) (by decide), rfl, by rw [hk, if_neg (by decide)]⟩
theorem dX8_pass_0 : decode cX8_pass 0 = .ok (.aload_n 0, 1) := by decide +kernel
theorem dX8_pass_1 : decode cX8_pass 1 = .ok (.iload_n 1, 1) := by decide +kernel
theorem dX8_pass_2 : decode cX8_pass 2 = .ok (.iconst 1, 1) := by decide +kernel
theorem dX8_pass_3 : decode cX8_pass 3 = .ok (.sipush 1000, 3) := by decide +kernel
theorem dX8_pass_6 : decode cX8_pass 6 = .ok (.invokestatic 84, 3) := by decide +kernel
theorem dX8_pass_9 : decode cX8_pass 9 = .ok (.ifCond .eq 7, 3) := by decide +kernel
theorem dX8_pass_12 : decode cX8_pass 12 = .ok (.iconst 0, 1) := by decide +kernel
theorem dX8_pass_13 : decode cX8_pass 13 = .ok (.goto 4, 3) := by decide +kernel
theorem dX8_pass_16 : decode cX8_pass 16 = .ok (.iconst 1, 1) := by decide +kernel
theorem dX8_pass_17 : decode cX8_pass 17 = .ok (.invokevirtual 111, 3) := by decide +kernel
theorem dX8_pass_20 : decode cX8_pass 20 = .ok (.ifCond .eq 5, 3) := by decide +kernel
theorem dX8_pass_23 : decode cX8_pass 23 = .ok (.iconst 0, 1) := by decide +kernel
theorem dX8_pass_24 : decode cX8_pass 24 = .ok (.ireturn, 1) := by decide +kernel
theorem dX8_pass_25 : decode cX8_pass 25 = .ok (.iconst 0, 1) := by decide +kernel
theorem dX8_pass_26 : decode cX8_pass 26 = .ok (.istore_n 2, 1) := by decide +kernel
theorem dX8_pass_27 : decode cX8_pass 27 = .ok (.iload_n 2, 1) := by decide +kernel
theorem dX8_pass_28 : decode cX8_pass 28 = .ok (.iload_n 1, 1) := by decide +kernel
theorem dX8_pass_29 : decode cX8_pass 29 = .ok (.if_icmp .ge 23, 3) := by decide +kernel
theorem dX8_pass_32 : decode cX8_pass 32 = .ok (.aload_n 0, 1) := by decide +kernel
theorem dX8_pass_33 : decode cX8_pass 33 = .ok (.dup, 1) := by decide +kernel
theorem dX8_pass_34 : decode cX8_pass 34 = .ok (.getfield 88, 3) := by decide +kernel
theorem dX8_pass_37 : decode cX8_pass 37 = .ok (.iconst 1, 1) := by decide +kernel
theorem dX8_pass_38 : decode cX8_pass 38 = .ok (.iadd, 1) := by decide +kernel
theorem dX8_pass_39 : decode cX8_pass 39 = .ok (.putfield 88, 3) := by decide +kernel
theorem dX8_pass_42 : decode cX8_pass 42 = .ok (.aload_n 0, 1) := by decide +kernel
theorem dX8_pass_43 : decode cX8_pass 43 = .ok (.invokevirtual 117, 3) := by decide +kernel
theorem dX8_pass_46 : decode cX8_pass 46 = .ok (.iinc 2 1, 3) := by decide +kernel
theorem dX8_pass_49 : decode cX8_pass 49 = .ok (.goto (-22), 3) := by decide +kernel
theorem dX8_pass_52 : decode cX8_pass 52 = .ok (.aload_n 0, 1) := by decide +kernel
theorem dX8_pass_53 : decode cX8_pass 53 = .ok (.getfield 88, 3) := by decide +kernel
theorem dX8_pass_56 : decode cX8_pass 56 = .ok (.ireturn, 1) := by decide +kernel
set_option maxHeartbeats 4000000 in
set_option maxRecDepth 100000 in
theorem c_X8_pass (l : Launch) (E : State) (G : kG) (S T : kSt) (o : Int64) (ad : kAd) (xh : Int32) (hT : okN T) : Met l yX8_pass (.code yX8_pass cX8_pass 3 (some .int) :: wsL_law) ({ frames := 6, cells := 0, slots := 0, locals := 130 } : Room) (va_Pc [.ref (ad 16 0), .int xh] (kPre E G ad (cto G S T o ad))) (kQi E G (fun r ad1 ct1 => (cPass xh = 0 → r = (itP (sI T 24 0 0) (kdT T) (cl xh)).1 0 0) ∧ ad = ad1 ∧ ct1 = cto G S (if cPass xh = 0 then itP (sI T 24 0 0) (kdT T) (cl xh) else sI T 24 0 (cPass xh)) o ad)) 0 0 (kB E.heap.size) := by
  refine Met.ofW (cc := cX8_pass) (maxL := 3) (ret := (some .int)) (by decide) rfl ?_
  intro p e s m args below meth c s₁ B hml hv
  obtain ⟨rfl, hM, hK, hW0⟩ := hv
  have hlocks := B.notSynchronized
  have hr := B.returns
  have Z : kZ p m c cX8_pass 3 s _ wsL_law RX8 E G := ⟨⟨B.exec, B.bytes, hml, findClass_of_methodNamed B.named, fun w h => atoms_spec (ws := .code yX8_pass cX8_pass 3 (some .int) :: wsL_law) B.pre w (List.mem_cons_of_mem _ h)⟩, hM, hK⟩
  have hx := Z.1.1
  have hb := Z.1.2.1
  have X := kX.of hW0
  have hl := lv_entry ([.ref (ad 16 0), .int xh]) (n := 3) (Nat.le_of_ble_eq_true rfl)
  rw [lg_entry_eq]
  generalize (lg_sl ([.ref (ad 16 0), .int xh]) ++ List.replicate (3 - (lg_sl ([.ref (ad 16 0), .int xh])).length) Slot.unset).toArray = ls at hl ⊢
  have hl : lv_has ls 3 [(0, .ref (ad 16 0)), (1, .int xh)] := hl
  have hT0 := hT
  obtain ⟨hT1, hT2, hT3, hT4, hT5, hT6, hT7⟩ := hT0
  refine lv_aload_n hx hb dX8_pass_0 rfl (lv_at hl 0 rfl) ?_
  refine lv_iload_n hx hb dX8_pass_1 rfl (lv_at hl 1 rfl) ?_
  refine lv_iconst (v := 1) hx hb dX8_pass_2 (by decide) ?_
  refine lv_sipush (v := 1000) hx hb dX8_pass_3 (by decide) ?_
  refine k_Ri X (k_runS (As := [.int xh, .int 1, .int 1000]) (rest := [.ref (ad 16 0)]) Z X (c_X8_isIn l E G S T o ad xh 1 1000) (k_cwS 3 Z.1.2.2.2.2 (inU_8 _ (List.mem_of_getElem? (i := 23) rfl)) (inU_9 _ (List.mem_of_getElem? (i := 0) rfl)) (inU_1 _ (List.mem_of_getElem? (i := 5) rfl)) (inU_9 _ (List.mem_of_getElem? (i := 1) rfl)) rfl rfl (by decide +kernel) ⟨Nat.le_of_ble_eq_true rfl, Nat.le_of_ble_eq_true rfl⟩) rfl hl.1 rfl (Nat.le_of_ble_eq_true rfl) dX8_pass_6 ⟨Nat.le_of_ble_eq_true rfl, Nat.le_of_ble_eq_true rfl⟩) (fun r_6 ad1 ct1 H locs hp X => ?_)
  obtain ⟨rfl, rfl, rfl⟩ := hp
  refine lv_if_eq (tgt := 16) hx hb dX8_pass_9 (by decide) (fun c_9 => ?_) (fun c_9 => ?_)
  · have c_9 : inR xh 1 1000 = false := bI_0 c_9
    refine lv_iconst (v := 1) hx hb dX8_pass_16 (by decide) ?_
    refine k_Ri X (k_runV (As := [.int 1]) (rest := []) Z X (c_X8_fails l E G S T o ad 1) (k_cwV 1 Z.1.2.2.2.2 (inU_9 _ (List.mem_of_getElem? (i := 2) rfl)) (inU_9 _ (List.mem_of_getElem? (i := 3) rfl)) (inU_9 _ (List.mem_of_getElem? (i := 4) rfl)) (inU_1 _ (List.mem_of_getElem? (i := 5) rfl)) (inU_9 _ (List.mem_of_getElem? (i := 5) rfl)) rfl rfl (by decide +kernel) ⟨Nat.le_of_ble_eq_true rfl, Nat.le_of_ble_eq_true rfl⟩) (k_recv Z X ct_16 rfl) rfl hl.1 rfl (Nat.le_of_ble_eq_true rfl) dX8_pass_17 ⟨Nat.le_of_ble_eq_true rfl, Nat.le_of_ble_eq_true rfl⟩) (fun r_17 ad1 ct1 H locs hp X => ?_)
    obtain ⟨rfl, rfl, rfl⟩ := hp
    refine lv_topi (fun x_17 e_17 => ?_)
    obtain rfl : x_17 = 1 := e_17.trans (by decide)
    refine lv_if_eq (tgt := 25) hx hb dX8_pass_20 (by decide) (fun c_20 => ?_) (fun c_20 => ?_)
    · exact absurd c_20 (by decide)
    · refine lv_iconst (v := 0) hx hb dX8_pass_23 (by decide) ?_
      have hk : cPass xh = 1 := by simp [cPass, c_9, c_20]
      exact k_iret Z X hr hlocks rfl (Nat.le_of_ble_eq_true rfl) (Nat.le_of_ble_eq_true rfl) dX8_pass_24 ⟨fun h => absurd (hk.symm.trans h) (by decide), rfl, by rw [hk, if_neg (by decide)]⟩
  · have c_9 : inR xh 1 1000 = true := bI_1 c_9
    obtain ⟨jh, hj1, hj2, hxh⟩ := inR_h c_9
    subst hxh
    have hch : cl (nI jh) = jh := nI_clamp (by omega)
    refine lv_iconst (v := 0) hx hb dX8_pass_12 (by decide) ?_
    refine lv_goto (tgt := 17) hx hb dX8_pass_13 (by decide) ?_
    refine k_Ri X (k_runV (As := [.int 0]) (rest := []) Z X (c_X8_fails l E G S T o ad 0) (k_cwV 1 Z.1.2.2.2.2 (inU_9 _ (List.mem_of_getElem? (i := 2) rfl)) (inU_9 _ (List.mem_of_getElem? (i := 3) rfl)) (inU_9 _ (List.mem_of_getElem? (i := 4) rfl)) (inU_1 _ (List.mem_of_getElem? (i := 5) rfl)) (inU_9 _ (List.mem_of_getElem? (i := 5) rfl)) rfl rfl (by decide +kernel) ⟨Nat.le_of_ble_eq_true rfl, Nat.le_of_ble_eq_true rfl⟩) (k_recv Z X ct_16 rfl) rfl hl.1 rfl (Nat.le_of_ble_eq_true rfl) dX8_pass_17 ⟨Nat.le_of_ble_eq_true rfl, Nat.le_of_ble_eq_true rfl⟩) (fun r_17 ad1 ct1 H locs hp X => ?_)
    obtain ⟨rfl, rfl, rfl⟩ := hp
    refine lv_topi (fun x_17 e_17 => ?_)
    obtain rfl : x_17 = 0 := e_17.trans (by decide)
    refine lv_if_eq (tgt := 25) hx hb dX8_pass_20 (by decide) (fun c_20 => ?_) (fun c_20 => ?_)
    · refine lv_iconst (v := 0) hx hb dX8_pass_25 (by decide) ?_
      refine lv_istore_n (lv' := [(2, .int 0), (0, .ref (ad 16 0)), (1, .int (nI jh))]) hx hb dX8_pass_26 rfl hl (by decide) rfl (fun ls hl => ?_)
      have LOOP_27 : ∀ (d : Nat) (n : Nat), n ≤ jh → jh < n + d → ∀ (H : Heap) (locs : List Loc) (ls : Array Slot), kX E G s H locs ad (cto G S (itP (sI T 24 0 0) (kdT T) n) o ad) → lv_has ls 3 [(2, .int (nI n)), (0, .ref (ad 16 0)), (1, .int (nI jh))] → W p l e (headSpec (Cond.code yX8_pass cX8_pass 3 (some .int) :: wsL_law) ({ frames := 6, cells := 0, slots := 0, locals := 130 } : Room)).room s m ([.ref (ad 16 0), .int (nI jh)] : List Value).toArray below meth c H locs 0 0 (MQ below (kQi E G (fun r ad1 ct1 => (cPass (nI jh) = 0 → r = (itP (sI T 24 0 0) (kdT T) (cl (nI jh))).1 0 0) ∧ ad = ad1 ∧ ct1 = cto G S (if cPass (nI jh) = 0 then itP (sI T 24 0 0) (kdT T) (cl (nI jh)) else sI T 24 0 (cPass (nI jh))) o ad)) ([.ref (ad 16 0), .int (nI jh)] : List Value).toArray s 0 0 (kB E.heap.size)) (F0 m 27 ls []) := by
        intro d
        induction d with
        | zero => intro n h1 h2; intros; exact absurd h2 (by omega)
        | succ d ih =>
          intro n h1 h2 H locs ls X hl
          obtain ⟨k2, k1⟩ := itP_r (sI T 24 0 0) (kdT T) n
          generalize hTn : itP (sI T 24 0 0) (kdT T) n = Tn at X k2 k1
          have k2 : Tn.2 = T.2 := k2
          have hkd : kdT (sI Tn 0 0 (Tn.1 0 0 + 1)) = kdT T := by funext a u; simp only [kdT, sI_f (show (22 : Nat) ≠ 0 by decide), sI_f (show (7 : Nat) ≠ 0 by decide), sI_f (show (21 : Nat) ≠ 0 by decide), k1 22 _ (by decide) (by decide) (by decide), k1 7 _ (by decide) (by decide) (by decide), k1 21 _ (by decide) (by decide) (by decide)]; rfl
          refine lv_iload_n hx hb dX8_pass_27 rfl (lv_at hl 0 rfl) ?_
          refine lv_iload_n hx hb dX8_pass_28 rfl (lv_at hl 2 rfl) ?_
          refine lv_icmp_ge (tgt := 52) hx hb dX8_pass_29 (by decide) (fun c_29 => ?_) (fun c_29 => ?_)
          · have c_29 : jh ≤ n := (nI_leI (a := jh) (b := n) (by omega) (by omega)).mp c_29
            have hn : jh = n := by omega
            subst hn
            refine lv_aload_n hx hb dX8_pass_52 rfl (lv_at hl 1 rfl) ?_
            refine k_get (index := 88) (j := 0) (ad := ad) (k := 16) (i := 0) Z X ct_16 inlX8 rfl (by decide) (inU_13 _ (List.mem_of_getElem? (i := 6) rfl)) (fun _ h => h) (v := .int (Tn.1 0 0)) rfl dX8_pass_53 ?_
            have hk : cPass (nI jh) = 0 := by simp [cPass, hch, c_9, c_20, c_29]
            exact k_iret Z X hr hlocks rfl (Nat.le_of_ble_eq_true rfl) (Nat.le_of_ble_eq_true rfl) dX8_pass_56 ⟨fun _ => by rw [hch, hTn], rfl, (congrArg (fun z => cto G S z o ad) (show Tn = itP (sI T 24 0 0) (kdT T) (cl (nI jh)) from by rw [hch, hTn])).trans (by rw [if_pos hk])⟩
          · have c_29 : ¬ jh ≤ n := fun h => c_29 ((nI_leI (a := jh) (b := n) (by omega) (by omega)).mpr h)
            refine lv_aload_n hx hb dX8_pass_32 rfl (lv_at hl 1 rfl) ?_
            refine lv_dup hx hb dX8_pass_33 rfl ?_
            refine k_get (index := 88) (j := 0) (ad := ad) (k := 16) (i := 0) Z X ct_16 inlX8 rfl (by decide) (inU_13 _ (List.mem_of_getElem? (i := 6) rfl)) (fun _ h => h) (v := .int (Tn.1 0 0)) rfl dX8_pass_34 ?_
            refine lv_iconst (v := 1) hx hb dX8_pass_37 (by decide) ?_
            refine lv_iadd hx hb dX8_pass_38 ?_
            refine k_put (index := 88) (j := 0) (k := 16) (i := 0) Z X ct_16 inlX8 tyX8_ok nmX8 rfl (by decide) (inU_13 _ (List.mem_of_getElem? (i := 6) rfl)) (fun _ h => h) rfl (Nat.le_of_ble_eq_true rfl) rfl rfl dX8_pass_39 (fun H locs X => ?_)
            have X : kX E G s H locs ad (cto G S (sI Tn 0 0 ((Tn.1 0 0) + 1)) o ad) := X.eq (st_hour _)
            refine lv_aload_n hx hb dX8_pass_42 rfl (lv_at hl 1 rfl) ?_
            refine k_Rv X (k_runV (As := []) (rest := []) Z X (c_X8_settles l E G S (sI Tn 0 0 (Tn.1 0 0 + 1)) o ad (by simp only [okN, sI_2, k2]; exact hT)) (k_cwV 0 Z.1.2.2.2.2 (inU_12 _ (List.mem_of_getElem? (i := 13) rfl)) (inU_12 _ (List.mem_of_getElem? (i := 14) rfl)) (inU_12 _ (List.mem_of_getElem? (i := 15) rfl)) (inU_1 _ (List.mem_of_getElem? (i := 5) rfl)) (inU_12 _ (List.mem_of_getElem? (i := 16) rfl)) rfl rfl (by decide +kernel) ⟨Nat.le_of_ble_eq_true rfl, Nat.le_of_ble_eq_true rfl⟩) (k_recv Z X ct_16 rfl) rfl hl.1 rfl (Nat.le_of_ble_eq_true rfl) dX8_pass_43 ⟨Nat.le_of_ble_eq_true rfl, Nat.le_of_ble_eq_true rfl⟩) (fun ad1 ct1 H locs hp X => ?_)
            obtain ⟨rfl, rfl⟩ := hp
            refine lv_iinc (v := (nI (n + 1))) (lv' := [(2, .int (nI (n + 1))), (0, .ref (ad 16 0)), (1, .int (nI jh))]) hx hb dX8_pass_46 hl (k := 0) rfl (nI_1 _) (by decide) rfl (fun ls hl => ?_)
            refine lv_goto (tgt := 27) hx hb dX8_pass_49 (by decide) ?_
            have hs : itP (sI T 24 0 0) (kdT T) (n + 1) = stl (sI Tn 0 0 (Tn.1 0 0 + 1)) (kdT (sI Tn 0 0 (Tn.1 0 0 + 1))) (Tn.2 0 2) := by simp only [itP, hTn, hkd, k2]; rfl
            exact ih (n + 1) (by omega) (by omega) _ _ _ (hs ▸ X) (lv_sub hl [0, 1, 2] rfl)
      exact LOOP_27 (jh + 1) 0 (by omega) (by omega) _ _ _ X (lv_sub hl [0, 1, 2] rfl)
    · exact absurd c_20 (by decide)
theorem dX8_messageOf_0 : decode cX8_messageOf 0 = .ok (.aload_n 0, 1) := by decide +kernel
theorem dX8_messageOf_1 : decode cX8_messageOf 1 = .ok (.aload_n 0, 1) := by decide +kernel
theorem dX8_messageOf_2 : decode cX8_messageOf 2 = .ok (.iload_n 1, 1) := by decide +kernel
theorem dX8_messageOf_3 : decode cX8_messageOf 3 = .ok (.invokevirtual 125, 3) := by decide +kernel
theorem dX8_messageOf_6 : decode cX8_messageOf 6 = .ok (.ifCond .ne 7, 3) := by decide +kernel
theorem dX8_messageOf_9 : decode cX8_messageOf 9 = .ok (.iconst 1, 1) := by decide +kernel
theorem dX8_messageOf_10 : decode cX8_messageOf 10 = .ok (.goto 18, 3) := by decide +kernel
theorem dX8_messageOf_13 : decode cX8_messageOf 13 = .ok (.iload_n 2, 1) := by decide +kernel
theorem dX8_messageOf_14 : decode cX8_messageOf 14 = .ok (.iconst 0, 1) := by decide +kernel
theorem dX8_messageOf_15 : decode cX8_messageOf 15 = .ok (.bipush 6, 2) := by decide +kernel
theorem dX8_messageOf_17 : decode cX8_messageOf 17 = .ok (.invokestatic 84, 3) := by decide +kernel
theorem dX8_messageOf_20 : decode cX8_messageOf 20 = .ok (.ifCond .eq 7, 3) := by decide +kernel
theorem dX8_messageOf_23 : decode cX8_messageOf 23 = .ok (.iconst 0, 1) := by decide +kernel
theorem dX8_messageOf_24 : decode cX8_messageOf 24 = .ok (.goto 4, 3) := by decide +kernel
theorem dX8_messageOf_27 : decode cX8_messageOf 27 = .ok (.iconst 2, 1) := by decide +kernel
theorem dX8_messageOf_28 : decode cX8_messageOf 28 = .ok (.invokevirtual 111, 3) := by decide +kernel
theorem dX8_messageOf_31 : decode cX8_messageOf 31 = .ok (.ifCond .eq 5, 3) := by decide +kernel
theorem dX8_messageOf_34 : decode cX8_messageOf 34 = .ok (.iconst 0, 1) := by decide +kernel
theorem dX8_messageOf_35 : decode cX8_messageOf 35 = .ok (.ireturn, 1) := by decide +kernel
theorem dX8_messageOf_36 : decode cX8_messageOf 36 = .ok (.iload_n 2, 1) := by decide +kernel
theorem dX8_messageOf_37 : decode cX8_messageOf 37 = .ok (.tableswitch 89 0 5 #[39, 46, 53, 60, 67, 74], 39) := by decide +kernel
theorem dX8_messageOf_76 : decode cX8_messageOf 76 = .ok (.aload_n 0, 1) := by decide +kernel
theorem dX8_messageOf_77 : decode cX8_messageOf 77 = .ok (.getfield 23, 3) := by decide +kernel
theorem dX8_messageOf_80 : decode cX8_messageOf 80 = .ok (.iload_n 1, 1) := by decide +kernel
theorem dX8_messageOf_81 : decode cX8_messageOf 81 = .ok (.iaload, 1) := by decide +kernel
theorem dX8_messageOf_82 : decode cX8_messageOf 82 = .ok (.ireturn, 1) := by decide +kernel
theorem dX8_messageOf_83 : decode cX8_messageOf 83 = .ok (.aload_n 0, 1) := by decide +kernel
theorem dX8_messageOf_84 : decode cX8_messageOf 84 = .ok (.getfield 26, 3) := by decide +kernel
theorem dX8_messageOf_87 : decode cX8_messageOf 87 = .ok (.iload_n 1, 1) := by decide +kernel
theorem dX8_messageOf_88 : decode cX8_messageOf 88 = .ok (.iaload, 1) := by decide +kernel
theorem dX8_messageOf_89 : decode cX8_messageOf 89 = .ok (.ireturn, 1) := by decide +kernel
theorem dX8_messageOf_90 : decode cX8_messageOf 90 = .ok (.aload_n 0, 1) := by decide +kernel
theorem dX8_messageOf_91 : decode cX8_messageOf 91 = .ok (.getfield 29, 3) := by decide +kernel
theorem dX8_messageOf_94 : decode cX8_messageOf 94 = .ok (.iload_n 1, 1) := by decide +kernel
theorem dX8_messageOf_95 : decode cX8_messageOf 95 = .ok (.iaload, 1) := by decide +kernel
theorem dX8_messageOf_96 : decode cX8_messageOf 96 = .ok (.ireturn, 1) := by decide +kernel
theorem dX8_messageOf_97 : decode cX8_messageOf 97 = .ok (.aload_n 0, 1) := by decide +kernel
theorem dX8_messageOf_98 : decode cX8_messageOf 98 = .ok (.getfield 32, 3) := by decide +kernel
theorem dX8_messageOf_101 : decode cX8_messageOf 101 = .ok (.iload_n 1, 1) := by decide +kernel
theorem dX8_messageOf_102 : decode cX8_messageOf 102 = .ok (.iaload, 1) := by decide +kernel
theorem dX8_messageOf_103 : decode cX8_messageOf 103 = .ok (.ireturn, 1) := by decide +kernel
theorem dX8_messageOf_104 : decode cX8_messageOf 104 = .ok (.aload_n 0, 1) := by decide +kernel
theorem dX8_messageOf_105 : decode cX8_messageOf 105 = .ok (.getfield 35, 3) := by decide +kernel
theorem dX8_messageOf_108 : decode cX8_messageOf 108 = .ok (.iload_n 1, 1) := by decide +kernel
theorem dX8_messageOf_109 : decode cX8_messageOf 109 = .ok (.iaload, 1) := by decide +kernel
theorem dX8_messageOf_110 : decode cX8_messageOf 110 = .ok (.ireturn, 1) := by decide +kernel
theorem dX8_messageOf_111 : decode cX8_messageOf 111 = .ok (.aload_n 0, 1) := by decide +kernel
theorem dX8_messageOf_112 : decode cX8_messageOf 112 = .ok (.getfield 38, 3) := by decide +kernel
theorem dX8_messageOf_115 : decode cX8_messageOf 115 = .ok (.iload_n 1, 1) := by decide +kernel
theorem dX8_messageOf_116 : decode cX8_messageOf 116 = .ok (.baload, 1) := by decide +kernel
theorem dX8_messageOf_117 : decode cX8_messageOf 117 = .ok (.ifCond .eq 7, 3) := by decide +kernel
theorem dX8_messageOf_120 : decode cX8_messageOf 120 = .ok (.iconst 1, 1) := by decide +kernel
theorem dX8_messageOf_121 : decode cX8_messageOf 121 = .ok (.goto 4, 3) := by decide +kernel
theorem dX8_messageOf_124 : decode cX8_messageOf 124 = .ok (.iconst 0, 1) := by decide +kernel
theorem dX8_messageOf_125 : decode cX8_messageOf 125 = .ok (.ireturn, 1) := by decide +kernel
theorem dX8_messageOf_126 : decode cX8_messageOf 126 = .ok (.aload_n 0, 1) := by decide +kernel
theorem dX8_messageOf_127 : decode cX8_messageOf 127 = .ok (.iload_n 1, 1) := by decide +kernel
theorem dX8_messageOf_128 : decode cX8_messageOf 128 = .ok (.invokevirtual 131, 3) := by decide +kernel
theorem dX8_messageOf_131 : decode cX8_messageOf 131 = .ok (.ireturn, 1) := by decide +kernel
set_option maxHeartbeats 4000000 in
set_option maxRecDepth 100000 in
theorem c_X8_messageOf (l : Launch) (E : State) (G : kG) (S T : kSt) (o : Int64) (ad : kAd) (xm xw : Int32) (hT : okN T) (hB : ∀ j, j < T.2 0 1 → T.1 8 j = 0 ∨ T.1 8 j = 1) : Met l yX8_messageOf (.code yX8_messageOf cX8_messageOf 3 (some .int) :: wsL_law) ({ frames := 5, cells := 0, slots := 0, locals := 110 } : Room) (va_Pc [.ref (ad 16 0), .int xm, .int xw] (kPre E G ad (cto G S T o ad))) (kQi E G (fun r ad1 ct1 => (cMsgOf T xm xw = 0 → r = rMsgOf T (kdT T) xm xw) ∧ ad = ad1 ∧ ct1 = cto G S (if cMsgOf T xm xw = 0 then (sI T 24 0 0) else sI T 24 0 (cMsgOf T xm xw)) o ad)) 0 0 (kB E.heap.size) := by
  refine Met.ofW (cc := cX8_messageOf) (maxL := 3) (ret := (some .int)) (by decide) rfl ?_
  intro p e s m args below meth c s₁ B hml hv
  obtain ⟨rfl, hM, hK, hW0⟩ := hv
  have hlocks := B.notSynchronized
  have hr := B.returns
  have Z : kZ p m c cX8_messageOf 3 s _ wsL_law RX8 E G := ⟨⟨B.exec, B.bytes, hml, findClass_of_methodNamed B.named, fun w h => atoms_spec (ws := .code yX8_messageOf cX8_messageOf 3 (some .int) :: wsL_law) B.pre w (List.mem_cons_of_mem _ h)⟩, hM, hK⟩
  have hx := Z.1.1
  have hb := Z.1.2.1
  have X := kX.of hW0
  have hl := lv_entry ([.ref (ad 16 0), .int xm, .int xw]) (n := 3) (Nat.le_of_ble_eq_true rfl)
  rw [lg_entry_eq]
  generalize (lg_sl ([.ref (ad 16 0), .int xm, .int xw]) ++ List.replicate (3 - (lg_sl ([.ref (ad 16 0), .int xm, .int xw])).length) Slot.unset).toArray = ls at hl ⊢
  have hl : lv_has ls 3 [(0, .ref (ad 16 0)), (1, .int xm), (2, .int xw)] := hl
  have hT0 := hT
  obtain ⟨hT1, hT2, hT3, hT4, hT5, hT6, hT7⟩ := hT0
  refine lv_aload_n hx hb dX8_messageOf_0 rfl (lv_at hl 0 rfl) ?_
  refine lv_aload_n hx hb dX8_messageOf_1 rfl (lv_at hl 0 rfl) ?_
  refine lv_iload_n hx hb dX8_messageOf_2 rfl (lv_at hl 1 rfl) ?_
  refine k_Ri X (k_runV (As := [.int xm]) (rest := [.ref (ad 16 0)]) Z X (c_X8_isMessage l E G S T o ad xm (by omega)) (k_cwV 1 Z.1.2.2.2.2 (inU_16 _ (List.mem_of_getElem? (i := 13) rfl)) (inU_16 _ (List.mem_of_getElem? (i := 14) rfl)) (inU_16 _ (List.mem_of_getElem? (i := 15) rfl)) (inU_1 _ (List.mem_of_getElem? (i := 5) rfl)) (inU_16 _ (List.mem_of_getElem? (i := 16) rfl)) rfl rfl (by decide +kernel) ⟨Nat.le_of_ble_eq_true rfl, Nat.le_of_ble_eq_true rfl⟩) (k_recv Z X ct_16 rfl) rfl hl.1 rfl (Nat.le_of_ble_eq_true rfl) dX8_messageOf_3 ⟨Nat.le_of_ble_eq_true rfl, Nat.le_of_ble_eq_true rfl⟩) (fun r_3 ad1 ct1 H locs hp X => ?_)
  obtain ⟨rfl, rfl, rfl⟩ := hp
  refine lv_if_ne (tgt := 13) hx hb dX8_messageOf_6 (by decide) (fun c_6 => ?_) (fun c_6 => ?_)
  · have c_6 : inB xm (T.2 0 1) = true := bI_1 c_6
    obtain ⟨jm, hjm, hxm⟩ := inB_of c_6 (by omega)
    subst hxm
    have hcm : cl (nI jm) = jm := nI_clamp (by omega)
    refine lv_iload_n hx hb dX8_messageOf_13 rfl (lv_at hl 2 rfl) ?_
    refine lv_iconst (v := 0) hx hb dX8_messageOf_14 (by decide) ?_
    refine lv_bipush (v := 6) hx hb dX8_messageOf_15 (by decide) ?_
    refine k_Ri X (k_runS (As := [.int xw, .int 0, .int 6]) (rest := [.ref (ad 16 0)]) Z X (c_X8_isIn l E G S T o ad xw 0 6) (k_cwS 3 Z.1.2.2.2.2 (inU_8 _ (List.mem_of_getElem? (i := 23) rfl)) (inU_9 _ (List.mem_of_getElem? (i := 0) rfl)) (inU_1 _ (List.mem_of_getElem? (i := 5) rfl)) (inU_9 _ (List.mem_of_getElem? (i := 1) rfl)) rfl rfl (by decide +kernel) ⟨Nat.le_of_ble_eq_true rfl, Nat.le_of_ble_eq_true rfl⟩) rfl hl.1 rfl (Nat.le_of_ble_eq_true rfl) dX8_messageOf_17 ⟨Nat.le_of_ble_eq_true rfl, Nat.le_of_ble_eq_true rfl⟩) (fun r_17 ad1 ct1 H locs hp X => ?_)
    obtain ⟨rfl, rfl, rfl⟩ := hp
    refine lv_if_eq (tgt := 27) hx hb dX8_messageOf_20 (by decide) (fun c_20 => ?_) (fun c_20 => ?_)
    · have c_20 : (inR xw 0 6) = false := bI_0 c_20
      refine lv_iconst (v := 2) hx hb dX8_messageOf_27 (by decide) ?_
      refine k_Ri X (k_runV (As := [.int 2]) (rest := []) Z X (c_X8_fails l E G S T o ad 2) (k_cwV 1 Z.1.2.2.2.2 (inU_9 _ (List.mem_of_getElem? (i := 2) rfl)) (inU_9 _ (List.mem_of_getElem? (i := 3) rfl)) (inU_9 _ (List.mem_of_getElem? (i := 4) rfl)) (inU_1 _ (List.mem_of_getElem? (i := 5) rfl)) (inU_9 _ (List.mem_of_getElem? (i := 5) rfl)) rfl rfl (by decide +kernel) ⟨Nat.le_of_ble_eq_true rfl, Nat.le_of_ble_eq_true rfl⟩) (k_recv Z X ct_16 rfl) rfl hl.1 rfl (Nat.le_of_ble_eq_true rfl) dX8_messageOf_28 ⟨Nat.le_of_ble_eq_true rfl, Nat.le_of_ble_eq_true rfl⟩) (fun r_28 ad1 ct1 H locs hp X => ?_)
      obtain ⟨rfl, rfl, rfl⟩ := hp
      refine lv_topi (fun x_28 e_28 => ?_)
      obtain rfl : x_28 = 1 := e_28.trans (by decide)
      refine lv_if_eq (tgt := 36) hx hb dX8_messageOf_31 (by decide) (fun c_31 => ?_) (fun c_31 => ?_)
      · exact absurd c_31 (by decide)
      · refine lv_iconst (v := 0) hx hb dX8_messageOf_34 (by decide) ?_
        have hk : cMsgOf T (nI jm) xw = 2 := by simp [cMsgOf, hcm, c_6, c_20, c_31]
        exact k_iret Z X hr hlocks rfl (Nat.le_of_ble_eq_true rfl) (Nat.le_of_ble_eq_true rfl) dX8_messageOf_35 ⟨fun h => absurd (hk.symm.trans h) (by decide), rfl, by rw [hk, if_neg (by decide)]⟩
    · have c_20 : (inR xw 0 6) = true := bI_1 c_20
      refine lv_iconst (v := 0) hx hb dX8_messageOf_23 (by decide) ?_
      refine lv_goto (tgt := 28) hx hb dX8_messageOf_24 (by decide) ?_
      refine k_Ri X (k_runV (As := [.int 0]) (rest := []) Z X (c_X8_fails l E G S T o ad 0) (k_cwV 1 Z.1.2.2.2.2 (inU_9 _ (List.mem_of_getElem? (i := 2) rfl)) (inU_9 _ (List.mem_of_getElem? (i := 3) rfl)) (inU_9 _ (List.mem_of_getElem? (i := 4) rfl)) (inU_1 _ (List.mem_of_getElem? (i := 5) rfl)) (inU_9 _ (List.mem_of_getElem? (i := 5) rfl)) rfl rfl (by decide +kernel) ⟨Nat.le_of_ble_eq_true rfl, Nat.le_of_ble_eq_true rfl⟩) (k_recv Z X ct_16 rfl) rfl hl.1 rfl (Nat.le_of_ble_eq_true rfl) dX8_messageOf_28 ⟨Nat.le_of_ble_eq_true rfl, Nat.le_of_ble_eq_true rfl⟩) (fun r_28 ad1 ct1 H locs hp X => ?_)
      obtain ⟨rfl, rfl, rfl⟩ := hp
      refine lv_topi (fun x_28 e_28 => ?_)
      obtain rfl : x_28 = 0 := e_28.trans (by decide)
      refine lv_if_eq (tgt := 36) hx hb dX8_messageOf_31 (by decide) (fun c_31 => ?_) (fun c_31 => ?_)
      · refine lv_iload_n hx hb dX8_messageOf_36 rfl (lv_at hl 2 rfl) ?_
        have hk : cMsgOf T (nI jm) xw = 0 := by simp [cMsgOf, hcm, c_6, c_20]
        rcases inR_6 c_20 with rfl | rfl | rfl | rfl | rfl | rfl | rfl
        · refine lv_tableIn (off := 39) (tgt := 76) hx hb dX8_messageOf_37 (by decide) (by decide) rfl (by decide) ?_
          refine lv_aload_n hx hb dX8_messageOf_76 rfl (lv_at hl 0 rfl) ?_
          refine k_get (index := 23) (j := 7) (ad := ad) (k := 16) (i := 0) Z X ct_16 inlX8 rfl (by decide) (inU_6 _ (List.mem_of_getElem? (i := 11) rfl)) (fun _ h => h) (v := .ref (ad 17 4)) rfl dX8_messageOf_77 ?_
          refine lv_iload_n hx hb dX8_messageOf_80 rfl (lv_at hl 1 rfl) ?_
          refine k_ild (ad := ad) (k := 17) (i := 4) Z X ct_17_4 (vp_in_nI (by first | assumption | omega) (by decide)) dX8_messageOf_81 ?_
          refine lv_topi (fun x_81 e_81 => ?_)
          obtain rfl : x_81 = nI (T.2 1 jm) := e_81.trans (by first | (simp only [nI_clamp (show jm < 2 ^ 31 by omega)]; done) | (simp only [nI_clamp (show jm < 2 ^ 31 by omega)]; rfl) | (simp only [nI_clamp (show jm < 2 ^ 31 by omega)]; simp [sI, sN]; done))
          have hk : cMsgOf T (nI jm) 0 = 0 := hk
          exact k_iret Z X hr hlocks rfl (Nat.le_of_ble_eq_true rfl) (Nat.le_of_ble_eq_true rfl) dX8_messageOf_82 ⟨fun _ => by simp [rMsgOf, hcm], rfl, (congrArg (fun z => cto G S z o ad) (show (sI T 24 0 0) = (sI T 24 0 0) from rfl)).trans (by rw [if_pos hk])⟩
        · refine lv_tableIn (off := 46) (tgt := 83) hx hb dX8_messageOf_37 (by decide) (by decide) rfl (by decide) ?_
          refine lv_aload_n hx hb dX8_messageOf_83 rfl (lv_at hl 0 rfl) ?_
          refine k_get (index := 26) (j := 8) (ad := ad) (k := 16) (i := 0) Z X ct_16 inlX8 rfl (by decide) (inU_6 _ (List.mem_of_getElem? (i := 12) rfl)) (fun _ h => h) (v := .ref (ad 17 5)) rfl dX8_messageOf_84 ?_
          refine lv_iload_n hx hb dX8_messageOf_87 rfl (lv_at hl 1 rfl) ?_
          refine k_ild (ad := ad) (k := 17) (i := 5) Z X ct_17_5 (vp_in_nI (by first | assumption | omega) (by decide)) dX8_messageOf_88 ?_
          refine lv_topi (fun x_88 e_88 => ?_)
          obtain rfl : x_88 = nI (T.2 2 jm) := e_88.trans (by first | (simp only [nI_clamp (show jm < 2 ^ 31 by omega)]; done) | (simp only [nI_clamp (show jm < 2 ^ 31 by omega)]; rfl) | (simp only [nI_clamp (show jm < 2 ^ 31 by omega)]; simp [sI, sN]; done))
          have hk : cMsgOf T (nI jm) 1 = 0 := hk
          exact k_iret Z X hr hlocks rfl (Nat.le_of_ble_eq_true rfl) (Nat.le_of_ble_eq_true rfl) dX8_messageOf_89 ⟨fun _ => by simp [rMsgOf, hcm], rfl, (congrArg (fun z => cto G S z o ad) (show (sI T 24 0 0) = (sI T 24 0 0) from rfl)).trans (by rw [if_pos hk])⟩
        · refine lv_tableIn (off := 53) (tgt := 90) hx hb dX8_messageOf_37 (by decide) (by decide) rfl (by decide) ?_
          refine lv_aload_n hx hb dX8_messageOf_90 rfl (lv_at hl 0 rfl) ?_
          refine k_get (index := 29) (j := 9) (ad := ad) (k := 16) (i := 0) Z X ct_16 inlX8 rfl (by decide) (inU_6 _ (List.mem_of_getElem? (i := 13) rfl)) (fun _ h => h) (v := .ref (ad 17 6)) rfl dX8_messageOf_91 ?_
          refine lv_iload_n hx hb dX8_messageOf_94 rfl (lv_at hl 1 rfl) ?_
          refine k_ild (ad := ad) (k := 17) (i := 6) Z X ct_17_6 (vp_in_nI (by first | assumption | omega) (by decide)) dX8_messageOf_95 ?_
          refine lv_topi (fun x_95 e_95 => ?_)
          obtain rfl : x_95 = T.1 5 jm := e_95.trans (by first | (simp only [nI_clamp (show jm < 2 ^ 31 by omega)]; done) | (simp only [nI_clamp (show jm < 2 ^ 31 by omega)]; rfl) | (simp only [nI_clamp (show jm < 2 ^ 31 by omega)]; simp [sI, sN]; done))
          have hk : cMsgOf T (nI jm) 2 = 0 := hk
          exact k_iret Z X hr hlocks rfl (Nat.le_of_ble_eq_true rfl) (Nat.le_of_ble_eq_true rfl) dX8_messageOf_96 ⟨fun _ => by simp [rMsgOf, hcm], rfl, (congrArg (fun z => cto G S z o ad) (show (sI T 24 0 0) = (sI T 24 0 0) from rfl)).trans (by rw [if_pos hk])⟩
        · refine lv_tableIn (off := 60) (tgt := 97) hx hb dX8_messageOf_37 (by decide) (by decide) rfl (by decide) ?_
          refine lv_aload_n hx hb dX8_messageOf_97 rfl (lv_at hl 0 rfl) ?_
          refine k_get (index := 32) (j := 10) (ad := ad) (k := 16) (i := 0) Z X ct_16 inlX8 rfl (by decide) (inU_6 _ (List.mem_of_getElem? (i := 14) rfl)) (fun _ h => h) (v := .ref (ad 17 7)) rfl dX8_messageOf_98 ?_
          refine lv_iload_n hx hb dX8_messageOf_101 rfl (lv_at hl 1 rfl) ?_
          refine k_ild (ad := ad) (k := 17) (i := 7) Z X ct_17_7 (vp_in_nI (by first | assumption | omega) (by decide)) dX8_messageOf_102 ?_
          refine lv_topi (fun x_102 e_102 => ?_)
          obtain rfl : x_102 = T.1 7 jm := e_102.trans (by first | (simp only [nI_clamp (show jm < 2 ^ 31 by omega)]; done) | (simp only [nI_clamp (show jm < 2 ^ 31 by omega)]; rfl) | (simp only [nI_clamp (show jm < 2 ^ 31 by omega)]; simp [sI, sN]; done))
          have hk : cMsgOf T (nI jm) 3 = 0 := hk
          exact k_iret Z X hr hlocks rfl (Nat.le_of_ble_eq_true rfl) (Nat.le_of_ble_eq_true rfl) dX8_messageOf_103 ⟨fun _ => by simp [rMsgOf, hcm], rfl, (congrArg (fun z => cto G S z o ad) (show (sI T 24 0 0) = (sI T 24 0 0) from rfl)).trans (by rw [if_pos hk])⟩
        · refine lv_tableIn (off := 67) (tgt := 104) hx hb dX8_messageOf_37 (by decide) (by decide) rfl (by decide) ?_
          refine lv_aload_n hx hb dX8_messageOf_104 rfl (lv_at hl 0 rfl) ?_
          refine k_get (index := 35) (j := 11) (ad := ad) (k := 16) (i := 0) Z X ct_16 inlX8 rfl (by decide) (inU_6 _ (List.mem_of_getElem? (i := 15) rfl)) (fun _ h => h) (v := .ref (ad 17 8)) rfl dX8_messageOf_105 ?_
          refine lv_iload_n hx hb dX8_messageOf_108 rfl (lv_at hl 1 rfl) ?_
          refine k_ild (ad := ad) (k := 17) (i := 8) Z X ct_17_8 (vp_in_nI (by first | assumption | omega) (by decide)) dX8_messageOf_109 ?_
          refine lv_topi (fun x_109 e_109 => ?_)
          obtain rfl : x_109 = T.1 6 jm := e_109.trans (by first | (simp only [nI_clamp (show jm < 2 ^ 31 by omega)]; done) | (simp only [nI_clamp (show jm < 2 ^ 31 by omega)]; rfl) | (simp only [nI_clamp (show jm < 2 ^ 31 by omega)]; simp [sI, sN]; done))
          have hk : cMsgOf T (nI jm) 4 = 0 := hk
          exact k_iret Z X hr hlocks rfl (Nat.le_of_ble_eq_true rfl) (Nat.le_of_ble_eq_true rfl) dX8_messageOf_110 ⟨fun _ => by simp [rMsgOf, hcm], rfl, (congrArg (fun z => cto G S z o ad) (show (sI T 24 0 0) = (sI T 24 0 0) from rfl)).trans (by rw [if_pos hk])⟩
        · refine lv_tableIn (off := 74) (tgt := 111) hx hb dX8_messageOf_37 (by decide) (by decide) rfl (by decide) ?_
          refine lv_aload_n hx hb dX8_messageOf_111 rfl (lv_at hl 0 rfl) ?_
          refine k_get (index := 38) (j := 12) (ad := ad) (k := 16) (i := 0) Z X ct_16 inlX8 rfl (by decide) (inU_6 _ (List.mem_of_getElem? (i := 16) rfl)) (fun _ h => h) (v := .ref (ad 17 9)) rfl dX8_messageOf_112 ?_
          refine lv_iload_n hx hb dX8_messageOf_115 rfl (lv_at hl 1 rfl) ?_
          refine k_zld (ad := ad) (k := 17) (i := 9) Z X ct_17_9 (vp_in_nI (by first | assumption | omega) (by decide)) dX8_messageOf_116 ?_
          refine lv_topi (fun x_116 e_116 => ?_)
          obtain rfl : x_116 = T.1 8 jm := e_116.trans (by first | (simp only [nI_clamp (show jm < 2 ^ 31 by omega)]; done) | (simp only [nI_clamp (show jm < 2 ^ 31 by omega)]; rfl) | (simp only [nI_clamp (show jm < 2 ^ 31 by omega)]; simp [sI, sN]; done))
          refine lv_if_eq (tgt := 124) hx hb dX8_messageOf_117 (by decide) (fun c_117 => ?_) (fun c_117 => ?_)
          · refine lv_iconst (v := 0) hx hb dX8_messageOf_124 (by decide) ?_
            have hk : cMsgOf T (nI jm) 5 = 0 := hk
            exact k_iret Z X hr hlocks rfl (Nat.le_of_ble_eq_true rfl) (Nat.le_of_ble_eq_true rfl) dX8_messageOf_125 ⟨fun _ => by rw [rMsgOf, if_neg (by decide), if_neg (by decide), if_neg (by decide), if_neg (by decide), if_neg (by decide), if_pos rfl, hcm]; exact bI_f (by simp [c_117]), rfl, (congrArg (fun z => cto G S z o ad) (show (sI T 24 0 0) = (sI T 24 0 0) from rfl)).trans (by rw [if_pos hk])⟩
          · refine lv_iconst (v := 1) hx hb dX8_messageOf_120 (by decide) ?_
            refine lv_goto (tgt := 125) hx hb dX8_messageOf_121 (by decide) ?_
            have hk : cMsgOf T (nI jm) 5 = 0 := hk
            exact k_iret Z X hr hlocks rfl (Nat.le_of_ble_eq_true rfl) (Nat.le_of_ble_eq_true rfl) dX8_messageOf_125 ⟨fun _ => by rw [rMsgOf, if_neg (by decide), if_neg (by decide), if_neg (by decide), if_neg (by decide), if_neg (by decide), if_pos rfl, hcm]; exact bI_t (by simp [c_117]), rfl, (congrArg (fun z => cto G S z o ad) (show (sI T 24 0 0) = (sI T 24 0 0) from rfl)).trans (by rw [if_pos hk])⟩
        · refine lv_tableOut (tgt := 126) hx hb dX8_messageOf_37 (by decide) (by decide) ?_
          refine lv_aload_n hx hb dX8_messageOf_126 rfl (lv_at hl 0 rfl) ?_
          refine lv_iload_n hx hb dX8_messageOf_127 rfl (lv_at hl 1 rfl) ?_
          refine k_Ri X (k_runV (As := [.int (nI jm)]) (rest := []) Z X (c_X8_counted l E G S (sI T 24 0 0) o ad jm (by omega) hT1) (k_cwV 1 Z.1.2.2.2.2 (inU_19 _ (List.mem_of_getElem? (i := 1) rfl)) (inU_19 _ (List.mem_of_getElem? (i := 2) rfl)) (inU_19 _ (List.mem_of_getElem? (i := 3) rfl)) (inU_1 _ (List.mem_of_getElem? (i := 5) rfl)) (inU_19 _ (List.mem_of_getElem? (i := 4) rfl)) rfl rfl (by decide +kernel) ⟨Nat.le_of_ble_eq_true rfl, Nat.le_of_ble_eq_true rfl⟩) (k_recv Z X ct_16 rfl) rfl hl.1 rfl (Nat.le_of_ble_eq_true rfl) dX8_messageOf_128 ⟨Nat.le_of_ble_eq_true rfl, Nat.le_of_ble_eq_true rfl⟩) (fun r_128 ad1 ct1 H locs hp X => ?_)
          obtain ⟨rfl, rfl, rfl⟩ := hp
          refine lv_topi (fun x_128 e_128 => ?_)
          obtain rfl : x_128 = nI (cntN T (kdT T jm) (T.2 0 0)) := e_128.trans (congrArg nI (cntN_c (S := T) (S' := sI T 24 0 0) rfl (fun _ => rfl) (fun _ => rfl) (fun _ _ => rfl)))
          have hk : cMsgOf T (nI jm) 6 = 0 := hk
          exact k_iret Z X hr hlocks rfl (Nat.le_of_ble_eq_true rfl) (Nat.le_of_ble_eq_true rfl) dX8_messageOf_131 ⟨fun _ => by simp [rMsgOf, hcm], rfl, (congrArg (fun z => cto G S z o ad) (show (sI T 24 0 0) = (sI T 24 0 0) from rfl)).trans (by rw [if_pos hk])⟩
      · exact absurd c_31 (by decide)
  · have c_6 : inB xm (T.2 0 1) = false := bI_0 c_6
    refine lv_iconst (v := 1) hx hb dX8_messageOf_9 (by decide) ?_
    refine lv_goto (tgt := 28) hx hb dX8_messageOf_10 (by decide) ?_
    refine k_Ri X (k_runV (As := [.int 1]) (rest := []) Z X (c_X8_fails l E G S T o ad 1) (k_cwV 1 Z.1.2.2.2.2 (inU_9 _ (List.mem_of_getElem? (i := 2) rfl)) (inU_9 _ (List.mem_of_getElem? (i := 3) rfl)) (inU_9 _ (List.mem_of_getElem? (i := 4) rfl)) (inU_1 _ (List.mem_of_getElem? (i := 5) rfl)) (inU_9 _ (List.mem_of_getElem? (i := 5) rfl)) rfl rfl (by decide +kernel) ⟨Nat.le_of_ble_eq_true rfl, Nat.le_of_ble_eq_true rfl⟩) (k_recv Z X ct_16 rfl) rfl hl.1 rfl (Nat.le_of_ble_eq_true rfl) dX8_messageOf_28 ⟨Nat.le_of_ble_eq_true rfl, Nat.le_of_ble_eq_true rfl⟩) (fun r_28 ad1 ct1 H locs hp X => ?_)
    obtain ⟨rfl, rfl, rfl⟩ := hp
    refine lv_topi (fun x_28 e_28 => ?_)
    obtain rfl : x_28 = 1 := e_28.trans (by decide)
    refine lv_if_eq (tgt := 36) hx hb dX8_messageOf_31 (by decide) (fun c_31 => ?_) (fun c_31 => ?_)
    · exact absurd c_31 (by decide)
    · refine lv_iconst (v := 0) hx hb dX8_messageOf_34 (by decide) ?_
      have hk : cMsgOf T xm xw = 1 := by simp [cMsgOf, c_6, c_31]
      exact k_iret Z X hr hlocks rfl (Nat.le_of_ble_eq_true rfl) (Nat.le_of_ble_eq_true rfl) dX8_messageOf_35 ⟨fun h => absurd (hk.symm.trans h) (by decide), rfl, by rw [hk, if_neg (by decide)]⟩
