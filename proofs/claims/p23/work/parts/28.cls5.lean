/-! THE CLASS: further calls that make nothing -/
theorem inR_4 {w : Int32} (h : inR w 0 3 = true) : w = 0 ∨ w = 1 ∨ w = 2 ∨ w = 3 := by
  rcases inR_6 (x := w) (by
    simp only [inR, Bool.and_eq_true, decide_eq_true_eq] at h ⊢
    exact ⟨h.1, Int32.le_trans h.2 (by decide)⟩) with e | e | e | e | e | e | e
  · exact Or.inl e
  · exact Or.inr (Or.inl e)
  · exact Or.inr (Or.inr (Or.inl e))
  · exact Or.inr (Or.inr (Or.inr e))
  · subst e; exact absurd h (by decide)
  · subst e; exact absurd h (by decide)
  · subst e; exact absurd h (by decide)
theorem notR {w b : Int32} (h : inR w 0 b = false) : w.toInt < 0 ∨ b.toInt < w.toInt := by
  simp only [inR, Bool.and_eq_false_iff, decide_eq_false_iff_not] at h
  rcases h with h | h
  · have := Int32.lt_iff_toInt_lt.mp (Int32.not_le.mp h)
    exact Or.inl (by simpa using this)
  · exact Or.inr (Int32.lt_iff_toInt_lt.mp (Int32.not_le.mp h))
/-- what isApproved anew reads the log into -/
def oAprC (S : kSt) (m n : Int32) : kSt := if n = 0 then S else sF S 18 (rpl S (cl m) (S.1 18) (S.2 0 4))
def rAprC (S : kSt) (m x n : Int32) : Bool := appr S (if n = 0 then kdS S (cl m) else rpl S (cl m) (S.1 18) (S.2 0 4)) (S.2 1 (cl m)) (S.2 0 0) x
theorem appr_sF {S : kSt} {g kd : Nat → Int32} {a n : Nat} {x : Int32} : appr (sF S 18 g) kd a n x = appr S kd a n x :=
  appr_c (S := S) (S' := sF S 18 g) (by rw [sF_fn (by decide)]) (fun j => by rw [sF_fn (by decide)]) (fun j => by rw [sF_fn (by decide)]) (fun _ _ => rfl)
theorem dX7_archive_0 : decode cX7_archive 0 = .ok (.aload_n 0, 1) := by decide +kernel
theorem dX7_archive_1 : decode cX7_archive 1 = .ok (.iload_n 1, 1) := by decide +kernel
theorem dX7_archive_2 : decode cX7_archive 2 = .ok (.invokevirtual 87, 3) := by decide +kernel
theorem dX7_archive_5 : decode cX7_archive 5 = .ok (.astore_n 2, 1) := by decide +kernel
theorem dX7_archive_6 : decode cX7_archive 6 = .ok (.aload_n 2, 1) := by decide +kernel
theorem dX7_archive_7 : decode cX7_archive 7 = .ok (.getfield 204, 3) := by decide +kernel
theorem dX7_archive_10 : decode cX7_archive 10 = .ok (.ifCond .eq 13, 3) := by decide +kernel
theorem dX7_archive_13 : decode cX7_archive 13 = .ok (.new 96, 3) := by decide +kernel
theorem dX7_archive_16 : decode cX7_archive 16 = .ok (.dup, 1) := by decide +kernel
theorem dX7_archive_17 : decode cX7_archive 17 = .ok (.ldc 208, 2) := by decide +kernel
theorem dX7_archive_19 : decode cX7_archive 19 = .ok (.invokespecial 100, 3) := by decide +kernel
theorem dX7_archive_22 : decode cX7_archive 22 = .ok (.athrow, 1) := by decide +kernel
theorem dX7_archive_23 : decode cX7_archive 23 = .ok (.iconst 0, 1) := by decide +kernel
theorem dX7_archive_24 : decode cX7_archive 24 = .ok (.istore_n 3, 1) := by decide +kernel
theorem dX7_archive_25 : decode cX7_archive 25 = .ok (.aload_n 0, 1) := by decide +kernel
theorem dX7_archive_26 : decode cX7_archive 26 = .ok (.getfield 28, 3) := by decide +kernel
theorem dX7_archive_29 : decode cX7_archive 29 = .ok (.invokevirtual 59, 3) := by decide +kernel
theorem dX7_archive_32 : decode cX7_archive 32 = .ok (.iconst 1, 1) := by decide +kernel
theorem dX7_archive_33 : decode cX7_archive 33 = .ok (.isub, 1) := by decide +kernel
theorem dX7_archive_34 : decode cX7_archive 34 = .ok (.istore 4, 2) := by decide +kernel
theorem dX7_archive_36 : decode cX7_archive 36 = .ok (.iload 4, 2) := by decide +kernel
theorem dX7_archive_38 : decode cX7_archive 38 = .ok (.ifCond .lt 53, 3) := by decide +kernel
theorem dX7_archive_41 : decode cX7_archive 41 = .ok (.aload_n 0, 1) := by decide +kernel
theorem dX7_archive_42 : decode cX7_archive 42 = .ok (.getfield 28, 3) := by decide +kernel
theorem dX7_archive_45 : decode cX7_archive 45 = .ok (.iload 4, 2) := by decide +kernel
theorem dX7_archive_47 : decode cX7_archive 47 = .ok (.invokevirtual 210, 3) := by decide +kernel
theorem dX7_archive_50 : decode cX7_archive 50 = .ok (.checkcast 112, 3) := by decide +kernel
theorem dX7_archive_53 : decode cX7_archive 53 = .ok (.astore 5, 2) := by decide +kernel
theorem dX7_archive_55 : decode cX7_archive 55 = .ok (.aload 5, 2) := by decide +kernel
theorem dX7_archive_57 : decode cX7_archive 57 = .ok (.getfield 111, 3) := by decide +kernel
theorem dX7_archive_60 : decode cX7_archive 60 = .ok (.getfield 117, 3) := by decide +kernel
theorem dX7_archive_63 : decode cX7_archive 63 = .ok (.iload_n 1, 1) := by decide +kernel
theorem dX7_archive_64 : decode cX7_archive 64 = .ok (.if_icmp .ne 21, 3) := by decide +kernel
theorem dX7_archive_67 : decode cX7_archive 67 = .ok (.aload_n 0, 1) := by decide +kernel
theorem dX7_archive_68 : decode cX7_archive 68 = .ok (.aload 5, 2) := by decide +kernel
theorem dX7_archive_70 : decode cX7_archive 70 = .ok (.invokevirtual 214, 3) := by decide +kernel
theorem dX7_archive_73 : decode cX7_archive 73 = .ok (.ifCond .eq 12, 3) := by decide +kernel
theorem dX7_archive_76 : decode cX7_archive 76 = .ok (.aload 5, 2) := by decide +kernel
theorem dX7_archive_78 : decode cX7_archive 78 = .ok (.iconst 1, 1) := by decide +kernel
theorem dX7_archive_79 : decode cX7_archive 79 = .ok (.putfield 218, 3) := by decide +kernel
theorem dX7_archive_82 : decode cX7_archive 82 = .ok (.iinc 3 1, 3) := by decide +kernel
theorem dX7_archive_85 : decode cX7_archive 85 = .ok (.iinc 4 (-1), 3) := by decide +kernel
theorem dX7_archive_88 : decode cX7_archive 88 = .ok (.goto (-52), 3) := by decide +kernel
theorem dX7_archive_91 : decode cX7_archive 91 = .ok (.iload_n 3, 1) := by decide +kernel
theorem dX7_archive_92 : decode cX7_archive 92 = .ok (.ireturn, 1) := by decide +kernel
set_option maxHeartbeats 4000000 in
set_option maxRecDepth 100000 in
theorem c_X7_archive (l : Launch) (E : State) (G : kG) (S T : kSt) (o : Int64) (ad : kAd) (xc : Int32) (hE : kE l E G) (hS : okN S) (hL : okL S) : vx_Met l yX7_archive (.code yX7_archive cX7_archive 6 (some .int) :: wsL_law) ({ frames := 14, cells := 20, slots := 400, locals := 400 } : Room) (va_Pc [.ref (ad 0 0), .int xc] (kPre E G ad (cto G S T o ad))) (kQi E G (fun r ad1 ct1 => (cArch S xc = 0 ∧ r = nI (arcN S (cl xc) (S.2 0 1))) ∧ ad = ad1 ∧ ct1 = cto G (arcS S (cl xc) (S.2 0 1)) T o ad)) (kXC E G (fun x ad1 ct1 => ((cArch S xc = 1 ∧ x = "java/lang/IndexOutOfBoundsException") ∨ (cArch S xc = 2 ∧ x = "java/lang/IllegalStateException")) ∧ ad = ad1 ∧ ct1 = cto G S T o ad)) 20 400 (kB E.heap.size) := by
  refine vx_ofW (cc := cX7_archive) (maxL := 6) (ret := (some .int)) (by decide) rfl ?_
  intro p e s m args below meth c s₁ B hml hout hv
  obtain ⟨rfl, hM, hK, hW0⟩ := hv
  have hlocks := B.notSynchronized
  have hr := B.returns
  have Z : kZ p m c cX7_archive 6 s _ wsL_law RX7 E G := ⟨⟨B.exec, B.bytes, hml, findClass_of_methodNamed B.named, fun w h => atoms_spec (ws := .code yX7_archive cX7_archive 6 (some .int) :: wsL_law) B.pre w (List.mem_cons_of_mem _ h)⟩, hM, hK⟩
  have hx := Z.1.1
  have hb := Z.1.2.1
  have X := kX.of hW0
  have hl := lv_entry ([.ref (ad 0 0), .int xc]) (n := 6) (Nat.le_of_ble_eq_true rfl)
  rw [lg_entry_eq]
  generalize (lg_sl ([.ref (ad 0 0), .int xc]) ++ List.replicate (6 - (lg_sl ([.ref (ad 0 0), .int xc])).length) Slot.unset).toArray = ls at hl ⊢
  have hl : lv_has ls 6 [(0, .ref (ad 0 0)), (1, .int xc)] := hl
  obtain ⟨hT1, hT2, hT3, hT4, hT5, hT6, hT7⟩ := id hS
  refine lv_aload_n hx hb dX7_archive_0 rfl (lv_at hl 0 rfl) ?_
  refine lv_iload_n hx hb dX7_archive_1 rfl (lv_at hl 1 rfl) ?_
  refine k_xRq X (k_xrunV (As := [.int xc]) (rest := []) Z X (c_X7_channelAt l E G S T o ad xc hE hS hL) (k_cwV 1 Z.1.2.2.2.2 (inU_10 _ (List.mem_of_getElem? (i := 14) rfl)) (inU_10 _ (List.mem_of_getElem? (i := 15) rfl)) (inU_10 _ (List.mem_of_getElem? (i := 16) rfl)) (inU_1 _ (List.mem_of_getElem? (i := 2) rfl)) (inU_10 _ (List.mem_of_getElem? (i := 17) rfl)) rfl rfl (by decide +kernel) ⟨Nat.le_of_ble_eq_true rfl, Nat.le_of_ble_eq_true rfl⟩) (k_recv Z X ct_0 rfl) rfl hl.1 rfl (Nat.le_of_ble_eq_true rfl) dX7_archive_2 ⟨(Nat.le_of_ble_eq_true rfl), (Nat.le_of_ble_eq_true rfl)⟩) (fun x ce q9 ad1 ct1 H locs hp X x1 x2 x3 => ?_) (fun r_2 ad1 ct1 H locs hp X => ?_)
  · obtain ⟨⟨rfl, hq⟩, ha_, hb_⟩ := hp
    rw [← ha_, hb_] at X
    have hk : cArch S xc = 1 := by simp [cArch, hq]
    exact k_out hout hlocks X x1 x2 x3 ⟨Or.inl ⟨hk, rfl⟩, rfl, rfl⟩ (Nat.le_of_ble_eq_true rfl) (Nat.le_of_ble_eq_true rfl)
  obtain ⟨⟨jc, hjc, rfl, rfl⟩, ha_, hb_⟩ := hp
  rw [← ha_, hb_] at X
  have q_c : inB (nI jc) 6 = true := inB_nI hjc (by omega)
  have hcc : cl (nI jc) = jc := nI_clamp (by omega)
  refine lv_astore_n (lv' := [(2, .ref (ad 3 jc)), (0, .ref (ad 0 0)), (1, .int (nI jc))]) hx hb dX7_archive_5 rfl hl (by decide) rfl (fun ls hl => ?_)
  refine lv_aload_n hx hb dX7_archive_6 rfl (lv_at hl 0 rfl) ?_
  refine k_get (index := 204) (j := 2) (ad := ad) (k := 3) (i := jc) Z X (ct_3 (by first | assumption | omega | decide)) inlX0 rfl (by decide) (inU_24 _ (List.mem_of_getElem? (i := 5) rfl)) (fun _ h => h) (v := .int (S.1 4 jc)) rfl dX7_archive_7 ?_
  refine lv_if_eq (tgt := 23) hx hb dX7_archive_10 (by decide) (fun c_10 => ?_) (fun c_10 => ?_)
  · refine lv_iconst (v := 0) hx hb dX7_archive_23 (by decide) ?_
    refine lv_istore_n (lv' := [(3, .int 0), (2, .ref (ad 3 jc)), (0, .ref (ad 0 0)), (1, .int (nI jc))]) hx hb dX7_archive_24 rfl hl (by decide) rfl (fun ls hl => ?_)
    refine lv_aload_n hx hb dX7_archive_25 rfl (lv_at hl 2 rfl) ?_
    refine k_get (index := 28) (j := 2) (ad := ad) (k := 0) (i := 0) Z X ct_0 inlX7 rfl (by decide) (inU_1 _ (List.mem_of_getElem? (i := 23) rfl)) (fun _ h => h) (v := .ref (ad 1 2)) rfl dX7_archive_26 ?_
    refine k_Ri X (k_runV (As := []) (rest := []) Z X (c_Jx4a65c_size_8abf5 l E G ad (cto G S T o ad) 2 _ _ (nI (S.2 0 1)) (ct_1 (by decide))) (k_cwV 0 Z.1.2.2.2.2 (inU_6 _ (List.mem_of_getElem? (i := 21) rfl)) (inU_6 _ (List.mem_of_getElem? (i := 22) rfl)) (inU_6 _ (List.mem_of_getElem? (i := 23) rfl)) (inU_1 _ (List.mem_of_getElem? (i := 17) rfl)) (inU_7 _ (List.mem_of_getElem? (i := 0) rfl)) rfl rfl (by decide +kernel) ⟨Nat.le_of_ble_eq_true rfl, Nat.le_of_ble_eq_true rfl⟩) (k_recv Z X (ct_1 (by decide)) rfl) rfl hl.1 rfl (Nat.le_of_ble_eq_true rfl) dX7_archive_29 ⟨(by first | exact Nat.le_of_ble_eq_true rfl | (show _ ≤ (_ : Nat); simp only [headSpec]; omega)), (by first | exact Nat.le_of_ble_eq_true rfl | (show _ ≤ (_ : Nat); simp only [headSpec]; omega))⟩) (fun r_29 ad1 ct1 H locs hp X => ?_)
    obtain ⟨rfl, ha_, hb_⟩ := hp
    rw [← ha_, hb_] at X
    refine lv_iconst (v := 1) hx hb dX7_archive_32 (by decide) ?_
    refine lv_isub hx hb dX7_archive_33 ?_
    refine lv_istore (lv' := [(4, .int ((nI (S.2 0 1)) - 1)), (3, .int 0), (2, .ref (ad 3 jc)), (0, .ref (ad 0 0)), (1, .int (nI jc))]) hx hb dX7_archive_34 hl (by decide) rfl (fun ls hl => ?_)
    have LOOP_36 : ∀ (d : Nat) (Sn : kSt) (n : Nat) (q : Nat), Sn.2 = S.2 → arcS Sn jc n = arcS S jc (S.2 0 1) → q + arcN Sn jc n = arcN S jc (S.2 0 1) → n ≤ S.2 0 1 → q + n ≤ S.2 0 1 → n < d → ∀ (H : Heap) (locs : List Loc) (ls : Array Slot), kX E G s H locs ad (cto G Sn T o ad) → lv_has ls 6 [(4, .int (nI n - 1)), (3, .int (nI q)), (2, .ref (ad 3 jc)), (0, .ref (ad 0 0)), (1, .int (nI jc))] → W p l e (headSpec (Cond.code yX7_archive cX7_archive 6 (some .int) :: wsL_law) ({ frames := 14, cells := 20, slots := 400, locals := 400 } : Room)).room s m ([.ref (ad 0 0), .int (nI jc)] : List Value).toArray below meth c H locs 1 6 (vx_MQ below (kQi E G (fun r ad1 ct1 => (cArch S (nI jc) = 0 ∧ r = nI (arcN S (cl (nI jc)) (S.2 0 1))) ∧ ad = ad1 ∧ ct1 = cto G (arcS S (cl (nI jc)) (S.2 0 1)) T o ad)) (kXC E G (fun x ad1 ct1 => ((cArch S (nI jc) = 1 ∧ x = "java/lang/IndexOutOfBoundsException") ∨ (cArch S (nI jc) = 2 ∧ x = "java/lang/IllegalStateException")) ∧ ad = ad1 ∧ ct1 = cto G S T o ad)) ([.ref (ad 0 0), .int (nI jc)] : List Value).toArray s 20 400 (kB E.heap.size)) (F0 m 36 ls []) := by
      intro d
      induction d with
      | zero => intro Sn n q k2 k1 k3 k4 k5 hd; intros; exact absurd hd (by omega)
      | succ d ih =>
        intro Sn n q k2 k1 k3 k4 k5 hd H locs ls X hl
        have hSn : okN Sn := okN_c k2 hS
        have hLn : okL Sn := okL_c k2 hL
        obtain ⟨n1, n2, n3, n4, n5, n6, n7⟩ := id hSn
        have k21 : Sn.2 0 1 = S.2 0 1 := by rw [k2]
        refine lv_iload hx hb dX7_archive_36 (lv_at hl 0 rfl) ?_
        refine lv_if_lt (tgt := 91) hx hb dX7_archive_38 (by decide) (fun c_38 => ?_) (fun c_38 => ?_)
        · have c_38 : n = 0 := (m1_lt (by omega)).mp c_38
          subst c_38
          refine lv_iload_n hx hb dX7_archive_91 rfl (lv_at hl 1 rfl) ?_
          have hk : cArch S (nI jc) = 0 := by simp [cArch, q_c, hcc, c_10]
          exact vx_ret (k_iret Z X hr hlocks rfl (Nat.le_of_ble_eq_true rfl) (Nat.le_of_ble_eq_true rfl) dX7_archive_92 ⟨⟨hk, by rw [hcc, ← k3]; rfl⟩, rfl, by rw [hcc, ← k1]; rfl⟩)
        · obtain ⟨z, rfl⟩ : ∃ z, n = z + 1 := ⟨n - 1, by have : n ≠ 0 := fun h => c_38 ((m1_lt (by omega)).mpr h); omega⟩
          rw [nI_pred] at hl
          have hz : z < Sn.2 0 1 := by omega
          have h5 := n5 z hz
          refine lv_aload_n hx hb dX7_archive_41 rfl (lv_at hl 3 rfl) ?_
          refine k_get (index := 28) (j := 2) (ad := ad) (k := 0) (i := 0) Z X ct_0 inlX7 rfl (by decide) (inU_1 _ (List.mem_of_getElem? (i := 23) rfl)) (fun _ h => h) (v := .ref (ad 1 2)) rfl dX7_archive_42 ?_
          refine lv_iload hx hb dX7_archive_45 (lv_at hl 0 rfl) ?_
          refine k_Rq X (k_runV (As := [.int (nI z)]) (rest := []) Z X (c_getS l E G Sn T o ad 2 z (by decide) hLn (by show _ < (_ : Nat); simp only [lcnt]; omega)) (k_cwV 1 Z.1.2.2.2.2 (inU_8 _ (List.mem_of_getElem? (i := 1) rfl)) (inU_8 _ (List.mem_of_getElem? (i := 2) rfl)) (inU_8 _ (List.mem_of_getElem? (i := 3) rfl)) (inU_1 _ (List.mem_of_getElem? (i := 17) rfl)) (inU_8 _ (List.mem_of_getElem? (i := 4) rfl)) rfl rfl (by decide +kernel) ⟨Nat.le_of_ble_eq_true rfl, Nat.le_of_ble_eq_true rfl⟩) (k_recv Z X (ct_1 (by decide)) rfl) rfl hl.1 rfl (Nat.le_of_ble_eq_true rfl) dX7_archive_47 ⟨(by first | exact Nat.le_of_ble_eq_true rfl | (show _ ≤ (_ : Nat); simp only [headSpec]; omega)), (by first | exact Nat.le_of_ble_eq_true rfl | (show _ ≤ (_ : Nat); simp only [headSpec]; omega))⟩) (fun r_47 ad1 ct1 H locs hp X => ?_)
          obtain ⟨rfl, ha_, hb_⟩ := hp
          rw [← ha_, hb_] at X
          refine k_cast (r := (RX3, TX3, 8)) Z X (ct_5 (by first | assumption | omega | decide)) rfl (inU_11 _ (List.mem_of_getElem? (i := 8) rfl)) dX7_archive_50 ?_
          refine lv_astore (lv' := [(5, .ref (ad 5 z)), (4, .int (nI z)), (3, .int (nI q)), (2, .ref (ad 3 jc)), (0, .ref (ad 0 0)), (1, .int (nI jc))]) hx hb dX7_archive_53 hl (by decide) rfl (fun ls hl => ?_)
          refine lv_aload hx hb dX7_archive_55 (lv_at hl 0 rfl) ?_
          refine k_get (index := 111) (j := 2) (ad := ad) (k := 5) (i := z) Z X (ct_5 (by first | assumption | omega | decide)) inlX3 rfl (by decide) (inU_9 _ (List.mem_of_getElem? (i := 0) rfl)) (fun _ h => h) (v := .ref (ad 3 (Sn.2 2 z))) rfl dX7_archive_57 ?_
          refine k_get (index := 117) (j := 0) (ad := ad) (k := 3) (i := (Sn.2 2 z)) Z X (ct_3 h5.2) inlX0 rfl (by decide) (inU_10 _ (List.mem_of_getElem? (i := 23) rfl)) (fun _ h => h) (v := .int (nI (Sn.2 2 z))) rfl dX7_archive_60 ?_
          refine lv_iload_n hx hb dX7_archive_63 rfl (lv_at hl 5 rfl) ?_
          refine lv_icmp_ne (tgt := 85) hx hb dX7_archive_64 (by decide) (fun c_64 => ?_) (fun c_64 => ?_)
          · have c_64 : ¬ (Sn.2 2 z) = jc := fun h => c_64 ((nI_eq (a := (Sn.2 2 z)) (b := jc) (by omega) (by omega)).mpr h)
            refine lv_iinc (v := (nI z - 1)) (lv' := [(4, .int (nI z - 1)), (5, .ref (ad 5 z)), (3, .int (nI q)), (2, .ref (ad 3 jc)), (0, .ref (ad 0 0)), (1, .int (nI jc))]) hx hb dX7_archive_85 hl (k := 1) rfl (by rw [Int32.sub_eq_add_neg]; rfl) (by decide) rfl (fun ls hl => ?_)
            refine lv_goto (tgt := 36) hx hb dX7_archive_88 (by decide) ?_
            have hc : ¬ (Sn.2 2 z = jc ∧ canA Sn z = true) := fun h => c_64 h.1
            have kA : arcS Sn jc z = arcS S jc (S.2 0 1) := by rw [← k1, arcS, if_neg hc]
            have kN : q + arcN Sn jc z = arcN S jc (S.2 0 1) := by rw [← k3, arcN, if_neg hc]
            exact ih Sn z q k2 kA kN (by omega) (by omega) (by omega) _ _ _ X (lv_sub hl [0, 2, 3, 4, 5] rfl)
          · have c_64 : (Sn.2 2 z) = jc := (nI_eq (a := (Sn.2 2 z)) (b := jc) (by omega) (by omega)).mp c_64
            refine lv_aload_n hx hb dX7_archive_67 rfl (lv_at hl 4 rfl) ?_
            refine lv_aload hx hb dX7_archive_68 (lv_at hl 0 rfl) ?_
            refine k_Ri X (k_runV (As := [.ref (ad 5 z)]) (rest := []) Z X (c_X7_mayBeArchived l E G Sn T o ad z hz hSn hLn) (k_cwV 1 Z.1.2.2.2.2 (inU_24 _ (List.mem_of_getElem? (i := 10) rfl)) (inU_24 _ (List.mem_of_getElem? (i := 11) rfl)) (inU_24 _ (List.mem_of_getElem? (i := 12) rfl)) (inU_1 _ (List.mem_of_getElem? (i := 2) rfl)) (inU_24 _ (List.mem_of_getElem? (i := 13) rfl)) rfl rfl (by decide +kernel) ⟨Nat.le_of_ble_eq_true rfl, Nat.le_of_ble_eq_true rfl⟩) (k_recv Z X ct_0 rfl) rfl hl.1 rfl (Nat.le_of_ble_eq_true rfl) dX7_archive_70 ⟨(by first | exact Nat.le_of_ble_eq_true rfl | (show _ ≤ (_ : Nat); simp only [headSpec]; omega)), (by first | exact Nat.le_of_ble_eq_true rfl | (show _ ≤ (_ : Nat); simp only [headSpec]; omega))⟩) (fun r_70 ad1 ct1 H locs hp X => ?_)
            obtain ⟨rfl, ha_, hb_⟩ := hp
            rw [← ha_, hb_] at X
            refine lv_if_eq (tgt := 85) hx hb dX7_archive_73 (by decide) (fun c_73 => ?_) (fun c_73 => ?_)
            · have c_73 : canA Sn z = false := bI_0 c_73
              refine lv_iinc (v := (nI z - 1)) (lv' := [(4, .int (nI z - 1)), (5, .ref (ad 5 z)), (3, .int (nI q)), (2, .ref (ad 3 jc)), (0, .ref (ad 0 0)), (1, .int (nI jc))]) hx hb dX7_archive_85 hl (k := 1) rfl (by rw [Int32.sub_eq_add_neg]; rfl) (by decide) rfl (fun ls hl => ?_)
              refine lv_goto (tgt := 36) hx hb dX7_archive_88 (by decide) ?_
              have hc : ¬ (Sn.2 2 z = jc ∧ canA Sn z = true) := fun h => by rw [c_73] at h; exact absurd h.2 (by decide)
              have kA : arcS Sn jc z = arcS S jc (S.2 0 1) := by rw [← k1, arcS, if_neg hc]
              have kN : q + arcN Sn jc z = arcN S jc (S.2 0 1) := by rw [← k3, arcN, if_neg hc]
              exact ih Sn z q k2 kA kN (by omega) (by omega) (by omega) _ _ _ X (lv_sub hl [0, 2, 3, 4, 5] rfl)
            · have c_73 : canA Sn z = true := bI_1 c_73
              refine lv_aload hx hb dX7_archive_76 (lv_at hl 0 rfl) ?_
              refine lv_iconst (v := 1) hx hb dX7_archive_78 (by decide) ?_
              refine k_put (index := 218) (j := 7) (k := 5) (i := z) Z X (ct_5 (by first | assumption | omega | decide)) inlX3 tyX3_ok nmX3 rfl (by decide) (inU_11 _ (List.mem_of_getElem? (i := 12) rfl)) (fun _ h => h) rfl (Nat.le_of_ble_eq_true rfl) rfl rfl dX7_archive_79 (fun H locs X => ?_)
              have X : kX E G s H locs ad (cto G (sI Sn 8 z 1) T o ad) := X.eq (cs_arch _ _ hz)
              refine lv_iinc (v := (nI (q + 1))) (lv' := [(3, .int (nI (q + 1))), (5, .ref (ad 5 z)), (4, .int (nI z)), (2, .ref (ad 3 jc)), (0, .ref (ad 0 0)), (1, .int (nI jc))]) hx hb dX7_archive_82 hl (k := 2) rfl (nI_1 _) (by decide) rfl (fun ls hl => ?_)
              refine lv_iinc (v := (nI z - 1)) (lv' := [(4, .int (nI z - 1)), (3, .int (nI (q + 1))), (5, .ref (ad 5 z)), (2, .ref (ad 3 jc)), (0, .ref (ad 0 0)), (1, .int (nI jc))]) hx hb dX7_archive_85 hl (k := 2) rfl (by rw [Int32.sub_eq_add_neg]; rfl) (by decide) rfl (fun ls hl => ?_)
              refine lv_goto (tgt := 36) hx hb dX7_archive_88 (by decide) ?_
              have hc : Sn.2 2 z = jc ∧ canA Sn z = true := ⟨c_64, c_73⟩
              have kA : arcS (sI Sn 8 z 1) jc z = arcS S jc (S.2 0 1) := by rw [← k1, arcS, if_pos hc]
              have kN : (q + 1) + arcN (sI Sn 8 z 1) jc z = arcN S jc (S.2 0 1) := by rw [← k3, arcN, if_pos hc]; omega
              exact ih (sI Sn 8 z 1) z (q + 1) k2 kA kN (by omega) (by omega) (by omega) _ _ _ X (lv_sub hl [0, 1, 3, 4, 5] rfl)
    exact LOOP_36 (S.2 0 1 + 1) S (S.2 0 1) 0 rfl rfl (Nat.zero_add _) (Nat.le_refl _) (by omega) (by omega) _ _ _ X (lv_sub hl [0, 1, 2, 3, 4] rfl)
  · have hk : cArch S (nI jc) = 2 := by simp [cArch, q_c, hcc, c_10]
    exact k_throwS hE Z X hout hlocks hl.1 kThr_ISE (inU_7 _ (List.mem_of_getElem? (i := 4) rfl)) (inU_7 _ (List.mem_of_getElem? (i := 5) rfl)) (text := "the channel is on hold") (List.mem_of_getElem? (i := 8) rfl) dX7_archive_13 dX7_archive_16 dX7_archive_17 dX7_archive_19 dX7_archive_22 (Nat.le_of_ble_eq_true rfl) ⟨(Nat.le_of_ble_eq_true rfl), (Nat.le_of_ble_eq_true rfl), (Nat.le_of_ble_eq_true rfl), (Nat.le_of_ble_eq_true rfl)⟩ ⟨(Nat.le_of_ble_eq_true rfl), (Nat.le_of_ble_eq_true rfl)⟩ ⟨(Nat.le_of_ble_eq_true rfl), (Nat.le_of_ble_eq_true rfl)⟩ ⟨Or.inr ⟨hk, rfl⟩, rfl, rfl⟩
theorem dX7_messageOf_0 : decode cX7_messageOf 0 = .ok (.aload_n 0, 1) := by decide +kernel
theorem dX7_messageOf_1 : decode cX7_messageOf 1 = .ok (.iload_n 1, 1) := by decide +kernel
theorem dX7_messageOf_2 : decode cX7_messageOf 2 = .ok (.invokevirtual 103, 3) := by decide +kernel
theorem dX7_messageOf_5 : decode cX7_messageOf 5 = .ok (.astore_n 3, 1) := by decide +kernel
theorem dX7_messageOf_6 : decode cX7_messageOf 6 = .ok (.iload_n 2, 1) := by decide +kernel
theorem dX7_messageOf_7 : decode cX7_messageOf 7 = .ok (.tableswitch 94 0 6 #[41, 49, 57, 62, 67, 72, 85], 41) := by decide +kernel
theorem dX7_messageOf_48 : decode cX7_messageOf 48 = .ok (.aload_n 3, 1) := by decide +kernel
theorem dX7_messageOf_49 : decode cX7_messageOf 49 = .ok (.getfield 130, 3) := by decide +kernel
theorem dX7_messageOf_52 : decode cX7_messageOf 52 = .ok (.getfield 71, 3) := by decide +kernel
theorem dX7_messageOf_55 : decode cX7_messageOf 55 = .ok (.ireturn, 1) := by decide +kernel
theorem dX7_messageOf_56 : decode cX7_messageOf 56 = .ok (.aload_n 3, 1) := by decide +kernel
theorem dX7_messageOf_57 : decode cX7_messageOf 57 = .ok (.getfield 111, 3) := by decide +kernel
theorem dX7_messageOf_60 : decode cX7_messageOf 60 = .ok (.getfield 117, 3) := by decide +kernel
theorem dX7_messageOf_63 : decode cX7_messageOf 63 = .ok (.ireturn, 1) := by decide +kernel
theorem dX7_messageOf_64 : decode cX7_messageOf 64 = .ok (.aload_n 3, 1) := by decide +kernel
theorem dX7_messageOf_65 : decode cX7_messageOf 65 = .ok (.getfield 221, 3) := by decide +kernel
theorem dX7_messageOf_68 : decode cX7_messageOf 68 = .ok (.ireturn, 1) := by decide +kernel
theorem dX7_messageOf_69 : decode cX7_messageOf 69 = .ok (.aload_n 3, 1) := by decide +kernel
theorem dX7_messageOf_70 : decode cX7_messageOf 70 = .ok (.getfield 136, 3) := by decide +kernel
theorem dX7_messageOf_73 : decode cX7_messageOf 73 = .ok (.ireturn, 1) := by decide +kernel
theorem dX7_messageOf_74 : decode cX7_messageOf 74 = .ok (.aload_n 3, 1) := by decide +kernel
theorem dX7_messageOf_75 : decode cX7_messageOf 75 = .ok (.getfield 224, 3) := by decide +kernel
theorem dX7_messageOf_78 : decode cX7_messageOf 78 = .ok (.ireturn, 1) := by decide +kernel
theorem dX7_messageOf_79 : decode cX7_messageOf 79 = .ok (.aload_n 3, 1) := by decide +kernel
theorem dX7_messageOf_80 : decode cX7_messageOf 80 = .ok (.getfield 218, 3) := by decide +kernel
theorem dX7_messageOf_83 : decode cX7_messageOf 83 = .ok (.ifCond .eq 7, 3) := by decide +kernel
theorem dX7_messageOf_86 : decode cX7_messageOf 86 = .ok (.iconst 1, 1) := by decide +kernel
theorem dX7_messageOf_87 : decode cX7_messageOf 87 = .ok (.goto 4, 3) := by decide +kernel
theorem dX7_messageOf_90 : decode cX7_messageOf 90 = .ok (.iconst 0, 1) := by decide +kernel
theorem dX7_messageOf_91 : decode cX7_messageOf 91 = .ok (.ireturn, 1) := by decide +kernel
theorem dX7_messageOf_92 : decode cX7_messageOf 92 = .ok (.aload_n 0, 1) := by decide +kernel
theorem dX7_messageOf_93 : decode cX7_messageOf 93 = .ok (.aload_n 3, 1) := by decide +kernel
theorem dX7_messageOf_94 : decode cX7_messageOf 94 = .ok (.getfield 139, 3) := by decide +kernel
theorem dX7_messageOf_97 : decode cX7_messageOf 97 = .ok (.invokevirtual 163, 3) := by decide +kernel
theorem dX7_messageOf_100 : decode cX7_messageOf 100 = .ok (.ireturn, 1) := by decide +kernel
theorem dX7_messageOf_101 : decode cX7_messageOf 101 = .ok (.new 227, 3) := by decide +kernel
theorem dX7_messageOf_104 : decode cX7_messageOf 104 = .ok (.dup, 1) := by decide +kernel
theorem dX7_messageOf_105 : decode cX7_messageOf 105 = .ok (.ldc 229, 2) := by decide +kernel
theorem dX7_messageOf_107 : decode cX7_messageOf 107 = .ok (.invokespecial 231, 3) := by decide +kernel
theorem dX7_messageOf_110 : decode cX7_messageOf 110 = .ok (.athrow, 1) := by decide +kernel
set_option maxHeartbeats 4000000 in
set_option maxRecDepth 100000 in
theorem c_X7_messageOf (l : Launch) (E : State) (G : kG) (S T : kSt) (o : Int64) (ad : kAd) (xm xw : Int32) (hE : kE l E G) (hS : okN S) (hL : okL S) : vx_Met l yX7_messageOf (.code yX7_messageOf cX7_messageOf 4 (some .int) :: wsL_law) ({ frames := 14, cells := 2, slots := 12, locals := 400 } : Room) (va_Pc [.ref (ad 0 0), .int xm, .int xw] (kPre E G ad (cto G S T o ad))) (kQi E G (fun r ad1 ct1 => (cMsgOf S xm xw = 0 ∧ r = rMsgOf S (kdS S) xm xw) ∧ ad = ad1 ∧ ct1 = cto G (S) T o ad)) (kXC E G (fun x ad1 ct1 => ((cMsgOf S xm xw = 1 ∧ x = "java/lang/IndexOutOfBoundsException") ∨ (cMsgOf S xm xw = 2 ∧ x = "java/lang/IllegalArgumentException")) ∧ ad = ad1 ∧ ct1 = cto G S T o ad)) 2 12 (kB E.heap.size) := by
  refine vx_ofW (cc := cX7_messageOf) (maxL := 4) (ret := (some .int)) (by decide) rfl ?_
  intro p e s m args below meth c s₁ B hml hout hv
  obtain ⟨rfl, hM, hK, hW0⟩ := hv
  have hlocks := B.notSynchronized
  have hr := B.returns
  have Z : kZ p m c cX7_messageOf 4 s _ wsL_law RX7 E G := ⟨⟨B.exec, B.bytes, hml, findClass_of_methodNamed B.named, fun w h => atoms_spec (ws := .code yX7_messageOf cX7_messageOf 4 (some .int) :: wsL_law) B.pre w (List.mem_cons_of_mem _ h)⟩, hM, hK⟩
  have hx := Z.1.1
  have hb := Z.1.2.1
  have X := kX.of hW0
  have hl := lv_entry ([.ref (ad 0 0), .int xm, .int xw]) (n := 4) (Nat.le_of_ble_eq_true rfl)
  rw [lg_entry_eq]
  generalize (lg_sl ([.ref (ad 0 0), .int xm, .int xw]) ++ List.replicate (4 - (lg_sl ([.ref (ad 0 0), .int xm, .int xw])).length) Slot.unset).toArray = ls at hl ⊢
  have hl : lv_has ls 4 [(0, .ref (ad 0 0)), (1, .int xm), (2, .int xw)] := hl
  obtain ⟨hT1, hT2, hT3, hT4, hT5, hT6, hT7⟩ := id hS
  refine lv_aload_n hx hb dX7_messageOf_0 rfl (lv_at hl 0 rfl) ?_
  refine lv_iload_n hx hb dX7_messageOf_1 rfl (lv_at hl 1 rfl) ?_
  refine k_xRq X (k_xrunV (As := [.int xm]) (rest := []) Z X (c_X7_messageAt l E G S T o ad xm hE hS hL) (k_cwV 1 Z.1.2.2.2.2 (inU_11 _ (List.mem_of_getElem? (i := 4) rfl)) (inU_11 _ (List.mem_of_getElem? (i := 5) rfl)) (inU_11 _ (List.mem_of_getElem? (i := 6) rfl)) (inU_1 _ (List.mem_of_getElem? (i := 2) rfl)) (inU_11 _ (List.mem_of_getElem? (i := 7) rfl)) rfl rfl (by decide +kernel) ⟨Nat.le_of_ble_eq_true rfl, Nat.le_of_ble_eq_true rfl⟩) (k_recv Z X ct_0 rfl) rfl hl.1 rfl (Nat.le_of_ble_eq_true rfl) dX7_messageOf_2 ⟨(Nat.le_of_ble_eq_true rfl), (Nat.le_of_ble_eq_true rfl)⟩) (fun x ce q9 ad1 ct1 H locs hp X x1 x2 x3 => ?_) (fun r_2 ad1 ct1 H locs hp X => ?_)
  · obtain ⟨⟨rfl, hq⟩, ha_, hb_⟩ := hp
    rw [← ha_, hb_] at X
    have hk : cMsgOf S xm xw = 1 := by simp [cMsgOf, hq]
    exact k_out hout hlocks X x1 x2 x3 ⟨Or.inl ⟨hk, rfl⟩, rfl, rfl⟩ (Nat.le_of_ble_eq_true rfl) (Nat.le_of_ble_eq_true rfl)
  obtain ⟨⟨jm, hjm, rfl, rfl⟩, ha_, hb_⟩ := hp
  rw [← ha_, hb_] at X
  have q_m : inB (nI jm) (S.2 0 1) = true := inB_nI hjm (by omega)
  have hcm : cl (nI jm) = jm := nI_clamp (by omega)
  have h5m := hT5 jm hjm
  refine lv_astore_n (lv' := [(3, .ref (ad 5 jm)), (0, .ref (ad 0 0)), (1, .int (nI jm)), (2, .int xw)]) hx hb dX7_messageOf_5 rfl hl (by decide) rfl (fun ls hl => ?_)
  refine lv_iload_n hx hb dX7_messageOf_6 rfl (lv_at hl 3 rfl) ?_
  cases q_r : inR xw 0 6
  · refine lv_tableOut (tgt := 101) hx hb dX7_messageOf_7 (by have h := notR q_r; exact h) (by decide) ?_
    have hk : cMsgOf S (nI jm) xw = 2 := by simp [cMsgOf, q_m, hcm, q_r]
    exact k_throwS hE Z X hout hlocks hl.1 kThr_IAE (inU_6 _ (List.mem_of_getElem? (i := 19) rfl)) (inU_6 _ (List.mem_of_getElem? (i := 20) rfl)) (text := "a message has no such thing") (List.mem_of_getElem? (i := 9) rfl) dX7_messageOf_101 dX7_messageOf_104 dX7_messageOf_105 dX7_messageOf_107 dX7_messageOf_110 (Nat.le_of_ble_eq_true rfl) ⟨(Nat.le_of_ble_eq_true rfl), (Nat.le_of_ble_eq_true rfl), (Nat.le_of_ble_eq_true rfl), (Nat.le_of_ble_eq_true rfl)⟩ ⟨(Nat.le_of_ble_eq_true rfl), (Nat.le_of_ble_eq_true rfl)⟩ ⟨(Nat.le_of_ble_eq_true rfl), (Nat.le_of_ble_eq_true rfl)⟩ ⟨Or.inr ⟨hk, rfl⟩, rfl, rfl⟩
  · rcases inR_6 q_r with rfl | rfl | rfl | rfl | rfl | rfl | rfl
    · refine lv_tableIn (off := 41) (tgt := 48) hx hb dX7_messageOf_7 (by decide) (by decide) rfl (by decide) ?_
      refine lv_aload_n hx hb dX7_messageOf_48 rfl (lv_at hl 0 rfl) ?_
      refine k_get (index := 130) (j := 1) (ad := ad) (k := 5) (i := jm) Z X (ct_5 (by first | assumption | omega | decide)) inlX3 rfl (by decide) (inU_9 _ (List.mem_of_getElem? (i := 14) rfl)) (fun _ h => h) (v := .ref (ad 4 (S.2 1 jm))) rfl dX7_messageOf_49 ?_
      refine k_get (index := 71) (j := 0) (ad := ad) (k := 4) (i := (S.2 1 jm)) Z X (ct_4 h5m.1) inlX6 rfl (by decide) (inU_6 _ (List.mem_of_getElem? (i := 15) rfl)) (fun _ h => h) (v := .int (nI (S.2 1 jm))) rfl dX7_messageOf_52 ?_
      have hk : cMsgOf S (nI jm) 0 = 0 := by simp [cMsgOf, q_m, hcm, q_r]
      exact vx_ret (k_iret Z X hr hlocks rfl (Nat.le_of_ble_eq_true rfl) (Nat.le_of_ble_eq_true rfl) dX7_messageOf_55 ⟨⟨hk, by simp [rMsgOf, hcm]⟩, rfl, rfl⟩)
    · refine lv_tableIn (off := 49) (tgt := 56) hx hb dX7_messageOf_7 (by decide) (by decide) rfl (by decide) ?_
      refine lv_aload_n hx hb dX7_messageOf_56 rfl (lv_at hl 0 rfl) ?_
      refine k_get (index := 111) (j := 2) (ad := ad) (k := 5) (i := jm) Z X (ct_5 (by first | assumption | omega | decide)) inlX3 rfl (by decide) (inU_9 _ (List.mem_of_getElem? (i := 0) rfl)) (fun _ h => h) (v := .ref (ad 3 (S.2 2 jm))) rfl dX7_messageOf_57 ?_
      refine k_get (index := 117) (j := 0) (ad := ad) (k := 3) (i := (S.2 2 jm)) Z X (ct_3 h5m.2) inlX0 rfl (by decide) (inU_10 _ (List.mem_of_getElem? (i := 23) rfl)) (fun _ h => h) (v := .int (nI (S.2 2 jm))) rfl dX7_messageOf_60 ?_
      have hk : cMsgOf S (nI jm) 1 = 0 := by simp [cMsgOf, q_m, hcm, q_r]
      exact vx_ret (k_iret Z X hr hlocks rfl (Nat.le_of_ble_eq_true rfl) (Nat.le_of_ble_eq_true rfl) dX7_messageOf_63 ⟨⟨hk, by simp [rMsgOf, hcm]⟩, rfl, rfl⟩)
    · refine lv_tableIn (off := 57) (tgt := 64) hx hb dX7_messageOf_7 (by decide) (by decide) rfl (by decide) ?_
      refine lv_aload_n hx hb dX7_messageOf_64 rfl (lv_at hl 0 rfl) ?_
      refine k_get (index := 221) (j := 3) (ad := ad) (k := 5) (i := jm) Z X (ct_5 (by first | assumption | omega | decide)) inlX3 rfl (by decide) (inU_25 _ (List.mem_of_getElem? (i := 3) rfl)) (fun _ h => h) (v := .int (S.1 5 jm)) rfl dX7_messageOf_65 ?_
      have hk : cMsgOf S (nI jm) 2 = 0 := by simp [cMsgOf, q_m, hcm, q_r]
      exact vx_ret (k_iret Z X hr hlocks rfl (Nat.le_of_ble_eq_true rfl) (Nat.le_of_ble_eq_true rfl) dX7_messageOf_68 ⟨⟨hk, by simp [rMsgOf, hcm]⟩, rfl, rfl⟩)
    · refine lv_tableIn (off := 62) (tgt := 69) hx hb dX7_messageOf_7 (by decide) (by decide) rfl (by decide) ?_
      refine lv_aload_n hx hb dX7_messageOf_69 rfl (lv_at hl 0 rfl) ?_
      refine k_get (index := 136) (j := 6) (ad := ad) (k := 5) (i := jm) Z X (ct_5 (by first | assumption | omega | decide)) inlX3 rfl (by decide) (inU_9 _ (List.mem_of_getElem? (i := 7) rfl)) (fun _ h => h) (v := .int (S.1 7 jm)) rfl dX7_messageOf_70 ?_
      have hk : cMsgOf S (nI jm) 3 = 0 := by simp [cMsgOf, q_m, hcm, q_r]
      exact vx_ret (k_iret Z X hr hlocks rfl (Nat.le_of_ble_eq_true rfl) (Nat.le_of_ble_eq_true rfl) dX7_messageOf_73 ⟨⟨hk, by simp [rMsgOf, hcm]⟩, rfl, rfl⟩)
    · refine lv_tableIn (off := 67) (tgt := 74) hx hb dX7_messageOf_7 (by decide) (by decide) rfl (by decide) ?_
      refine lv_aload_n hx hb dX7_messageOf_74 rfl (lv_at hl 0 rfl) ?_
      refine k_get (index := 224) (j := 4) (ad := ad) (k := 5) (i := jm) Z X (ct_5 (by first | assumption | omega | decide)) inlX3 rfl (by decide) (inU_24 _ (List.mem_of_getElem? (i := 14) rfl)) (fun _ h => h) (v := .int (S.1 6 jm)) rfl dX7_messageOf_75 ?_
      have hk : cMsgOf S (nI jm) 4 = 0 := by simp [cMsgOf, q_m, hcm, q_r]
      exact vx_ret (k_iret Z X hr hlocks rfl (Nat.le_of_ble_eq_true rfl) (Nat.le_of_ble_eq_true rfl) dX7_messageOf_78 ⟨⟨hk, by simp [rMsgOf, hcm]⟩, rfl, rfl⟩)
    · refine lv_tableIn (off := 72) (tgt := 79) hx hb dX7_messageOf_7 (by decide) (by decide) rfl (by decide) ?_
      refine lv_aload_n hx hb dX7_messageOf_79 rfl (lv_at hl 0 rfl) ?_
      refine k_get (index := 218) (j := 7) (ad := ad) (k := 5) (i := jm) Z X (ct_5 (by first | assumption | omega | decide)) inlX3 rfl (by decide) (inU_11 _ (List.mem_of_getElem? (i := 12) rfl)) (fun _ h => h) (v := .int (S.1 8 jm)) rfl dX7_messageOf_80 ?_
      refine lv_if_eq (tgt := 90) hx hb dX7_messageOf_83 (by decide) (fun c_83 => ?_) (fun c_83 => ?_)
      · refine lv_iconst (v := 0) hx hb dX7_messageOf_90 (by decide) ?_
        have hk : cMsgOf S (nI jm) 5 = 0 := by simp [cMsgOf, q_m, hcm, q_r, c_83]
        exact vx_ret (k_iret Z X hr hlocks rfl (Nat.le_of_ble_eq_true rfl) (Nat.le_of_ble_eq_true rfl) dX7_messageOf_91 ⟨⟨hk, by rw [rMsgOf, if_neg (by decide), if_neg (by decide), if_neg (by decide), if_neg (by decide), if_neg (by decide), if_pos rfl, hcm]; exact bI_f (by simp [c_83])⟩, rfl, rfl⟩)
      · refine lv_iconst (v := 1) hx hb dX7_messageOf_86 (by decide) ?_
        refine lv_goto (tgt := 91) hx hb dX7_messageOf_87 (by decide) ?_
        have hk : cMsgOf S (nI jm) 5 = 0 := by simp [cMsgOf, q_m, hcm, q_r, c_83]
        exact vx_ret (k_iret Z X hr hlocks rfl (Nat.le_of_ble_eq_true rfl) (Nat.le_of_ble_eq_true rfl) dX7_messageOf_91 ⟨⟨hk, by rw [rMsgOf, if_neg (by decide), if_neg (by decide), if_neg (by decide), if_neg (by decide), if_neg (by decide), if_pos rfl, hcm]; exact bI_t (by simp [c_83])⟩, rfl, rfl⟩)
    · refine lv_tableIn (off := 85) (tgt := 92) hx hb dX7_messageOf_7 (by decide) (by decide) rfl (by decide) ?_
      refine lv_aload_n hx hb dX7_messageOf_92 rfl (lv_at hl 1 rfl) ?_
      refine lv_aload_n hx hb dX7_messageOf_93 rfl (lv_at hl 0 rfl) ?_
      refine k_get (index := 139) (j := 5) (ad := ad) (k := 5) (i := jm) Z X (ct_5 (by first | assumption | omega | decide)) inlX3 rfl (by decide) (inU_9 _ (List.mem_of_getElem? (i := 9) rfl)) (fun _ h => h) (v := .ref (ad 6 jm)) rfl dX7_messageOf_94 ?_
      refine k_Ri X (k_runV (As := [.ref (ad 6 jm)]) (rest := []) Z X (c_X7_countMarks l E G S T o ad 6 jm 7 jm (kdS S jm) (ct_6 hjm) (ct_7 hjm) hS hL) (k_cwV 1 Z.1.2.2.2.2 (inU_13 _ (List.mem_of_getElem? (i := 19) rfl)) (inU_13 _ (List.mem_of_getElem? (i := 20) rfl)) (inU_13 _ (List.mem_of_getElem? (i := 21) rfl)) (inU_1 _ (List.mem_of_getElem? (i := 2) rfl)) (inU_13 _ (List.mem_of_getElem? (i := 22) rfl)) rfl rfl (by decide +kernel) ⟨Nat.le_of_ble_eq_true rfl, Nat.le_of_ble_eq_true rfl⟩) (k_recv Z X ct_0 rfl) rfl hl.1 rfl (Nat.le_of_ble_eq_true rfl) dX7_messageOf_97 ⟨(by first | exact Nat.le_of_ble_eq_true rfl | (show _ ≤ (_ : Nat); simp only [headSpec]; omega)), (by first | exact Nat.le_of_ble_eq_true rfl | (show _ ≤ (_ : Nat); simp only [headSpec]; omega))⟩) (fun r_97 ad1 ct1 H locs hp X => ?_)
      obtain ⟨rfl, ha_, hb_⟩ := hp
      rw [← ha_, hb_] at X
      have hk : cMsgOf S (nI jm) 6 = 0 := by simp [cMsgOf, q_m, hcm, q_r]
      exact vx_ret (k_iret Z X hr hlocks rfl (Nat.le_of_ble_eq_true rfl) (Nat.le_of_ble_eq_true rfl) dX7_messageOf_100 ⟨⟨hk, by simp [rMsgOf, hcm]⟩, rfl, rfl⟩)
theorem dX7_spendOf_0 : decode cX7_spendOf 0 = .ok (.aload_n 0, 1) := by decide +kernel
theorem dX7_spendOf_1 : decode cX7_spendOf 1 = .ok (.iload_n 1, 1) := by decide +kernel
theorem dX7_spendOf_2 : decode cX7_spendOf 2 = .ok (.invokevirtual 236, 3) := by decide +kernel
theorem dX7_spendOf_5 : decode cX7_spendOf 5 = .ok (.astore_n 3, 1) := by decide +kernel
theorem dX7_spendOf_6 : decode cX7_spendOf 6 = .ok (.iload_n 2, 1) := by decide +kernel
theorem dX7_spendOf_7 : decode cX7_spendOf 7 = .ok (.tableswitch 52 0 3 #[29, 34, 42, 47], 29) := by decide +kernel
theorem dX7_spendOf_36 : decode cX7_spendOf 36 = .ok (.aload_n 3, 1) := by decide +kernel
theorem dX7_spendOf_37 : decode cX7_spendOf 37 = .ok (.getfield 240, 3) := by decide +kernel
theorem dX7_spendOf_40 : decode cX7_spendOf 40 = .ok (.ireturn, 1) := by decide +kernel
theorem dX7_spendOf_41 : decode cX7_spendOf 41 = .ok (.aload_n 3, 1) := by decide +kernel
theorem dX7_spendOf_42 : decode cX7_spendOf 42 = .ok (.getfield 241, 3) := by decide +kernel
theorem dX7_spendOf_45 : decode cX7_spendOf 45 = .ok (.getfield 127, 3) := by decide +kernel
theorem dX7_spendOf_48 : decode cX7_spendOf 48 = .ok (.ireturn, 1) := by decide +kernel
theorem dX7_spendOf_49 : decode cX7_spendOf 49 = .ok (.aload_n 3, 1) := by decide +kernel
theorem dX7_spendOf_50 : decode cX7_spendOf 50 = .ok (.getfield 245, 3) := by decide +kernel
theorem dX7_spendOf_53 : decode cX7_spendOf 53 = .ok (.ireturn, 1) := by decide +kernel
theorem dX7_spendOf_54 : decode cX7_spendOf 54 = .ok (.aload_n 3, 1) := by decide +kernel
theorem dX7_spendOf_55 : decode cX7_spendOf 55 = .ok (.getfield 246, 3) := by decide +kernel
theorem dX7_spendOf_58 : decode cX7_spendOf 58 = .ok (.ireturn, 1) := by decide +kernel
theorem dX7_spendOf_59 : decode cX7_spendOf 59 = .ok (.new 227, 3) := by decide +kernel
theorem dX7_spendOf_62 : decode cX7_spendOf 62 = .ok (.dup, 1) := by decide +kernel
theorem dX7_spendOf_63 : decode cX7_spendOf 63 = .ok (.ldc 249, 2) := by decide +kernel
theorem dX7_spendOf_65 : decode cX7_spendOf 65 = .ok (.invokespecial 231, 3) := by decide +kernel
theorem dX7_spendOf_68 : decode cX7_spendOf 68 = .ok (.athrow, 1) := by decide +kernel
set_option maxHeartbeats 4000000 in
set_option maxRecDepth 100000 in
theorem c_X7_spendOf (l : Launch) (E : State) (G : kG) (S T : kSt) (o : Int64) (ad : kAd) (xs xw : Int32) (hE : kE l E G) (hS : okN S) (hL : okL S) : vx_Met l yX7_spendOf (.code yX7_spendOf cX7_spendOf 4 (some .int) :: wsL_law) ({ frames := 14, cells := 2, slots := 12, locals := 400 } : Room) (va_Pc [.ref (ad 0 0), .int xs, .int xw] (kPre E G ad (cto G S T o ad))) (kQi E G (fun r ad1 ct1 => (cSpOf S xs xw = 0 ∧ r = rSpOf S xs xw) ∧ ad = ad1 ∧ ct1 = cto G (S) T o ad)) (kXC E G (fun x ad1 ct1 => ((cSpOf S xs xw = 1 ∧ x = "java/lang/IndexOutOfBoundsException") ∨ (cSpOf S xs xw = 2 ∧ x = "java/lang/IllegalArgumentException")) ∧ ad = ad1 ∧ ct1 = cto G S T o ad)) 2 12 (kB E.heap.size) := by
  refine vx_ofW (cc := cX7_spendOf) (maxL := 4) (ret := (some .int)) (by decide) rfl ?_
  intro p e s m args below meth c s₁ B hml hout hv
  obtain ⟨rfl, hM, hK, hW0⟩ := hv
  have hlocks := B.notSynchronized
  have hr := B.returns
  have Z : kZ p m c cX7_spendOf 4 s _ wsL_law RX7 E G := ⟨⟨B.exec, B.bytes, hml, findClass_of_methodNamed B.named, fun w h => atoms_spec (ws := .code yX7_spendOf cX7_spendOf 4 (some .int) :: wsL_law) B.pre w (List.mem_cons_of_mem _ h)⟩, hM, hK⟩
  have hx := Z.1.1
  have hb := Z.1.2.1
  have X := kX.of hW0
  have hl := lv_entry ([.ref (ad 0 0), .int xs, .int xw]) (n := 4) (Nat.le_of_ble_eq_true rfl)
  rw [lg_entry_eq]
  generalize (lg_sl ([.ref (ad 0 0), .int xs, .int xw]) ++ List.replicate (4 - (lg_sl ([.ref (ad 0 0), .int xs, .int xw])).length) Slot.unset).toArray = ls at hl ⊢
  have hl : lv_has ls 4 [(0, .ref (ad 0 0)), (1, .int xs), (2, .int xw)] := hl
  obtain ⟨hT1, hT2, hT3, hT4, hT5, hT6, hT7⟩ := id hS
  refine lv_aload_n hx hb dX7_spendOf_0 rfl (lv_at hl 0 rfl) ?_
  refine lv_iload_n hx hb dX7_spendOf_1 rfl (lv_at hl 1 rfl) ?_
  refine k_xRq X (k_xrunV (As := [.int xs]) (rest := []) Z X (c_X7_spendAt l E G S T o ad xs hE hS hL) (k_cwV 1 Z.1.2.2.2.2 (inU_26 _ (List.mem_of_getElem? (i := 2) rfl)) (inU_26 _ (List.mem_of_getElem? (i := 3) rfl)) (inU_26 _ (List.mem_of_getElem? (i := 4) rfl)) (inU_1 _ (List.mem_of_getElem? (i := 2) rfl)) (inU_26 _ (List.mem_of_getElem? (i := 5) rfl)) rfl rfl (by decide +kernel) ⟨Nat.le_of_ble_eq_true rfl, Nat.le_of_ble_eq_true rfl⟩) (k_recv Z X ct_0 rfl) rfl hl.1 rfl (Nat.le_of_ble_eq_true rfl) dX7_spendOf_2 ⟨(Nat.le_of_ble_eq_true rfl), (Nat.le_of_ble_eq_true rfl)⟩) (fun x ce q9 ad1 ct1 H locs hp X x1 x2 x3 => ?_) (fun r_2 ad1 ct1 H locs hp X => ?_)
  · obtain ⟨⟨rfl, hq⟩, ha_, hb_⟩ := hp
    rw [← ha_, hb_] at X
    have hk : cSpOf S xs xw = 1 := by simp [cSpOf, hq]
    exact k_out hout hlocks X x1 x2 x3 ⟨Or.inl ⟨hk, rfl⟩, rfl, rfl⟩ (Nat.le_of_ble_eq_true rfl) (Nat.le_of_ble_eq_true rfl)
  obtain ⟨⟨js, hjs, rfl, rfl⟩, ha_, hb_⟩ := hp
  rw [← ha_, hb_] at X
  have q_s : inB (nI js) (S.2 0 2) = true := inB_nI hjs (by omega)
  have hcs : cl (nI js) = js := nI_clamp (by omega)
  have h6s := hT6 js hjs
  refine lv_astore_n (lv' := [(3, .ref (ad 8 js)), (0, .ref (ad 0 0)), (1, .int (nI js)), (2, .int xw)]) hx hb dX7_spendOf_5 rfl hl (by decide) rfl (fun ls hl => ?_)
  refine lv_iload_n hx hb dX7_spendOf_6 rfl (lv_at hl 3 rfl) ?_
  cases q_r : inR xw 0 3
  · refine lv_tableOut (tgt := 59) hx hb dX7_spendOf_7 (by have h := notR q_r; exact h) (by decide) ?_
    have hk : cSpOf S (nI js) xw = 2 := by simp [cSpOf, q_s, hcs, q_r]
    exact k_throwS hE Z X hout hlocks hl.1 kThr_IAE (inU_6 _ (List.mem_of_getElem? (i := 19) rfl)) (inU_6 _ (List.mem_of_getElem? (i := 20) rfl)) (text := "a spend has no such thing") (List.mem_of_getElem? (i := 10) rfl) dX7_spendOf_59 dX7_spendOf_62 dX7_spendOf_63 dX7_spendOf_65 dX7_spendOf_68 (Nat.le_of_ble_eq_true rfl) ⟨(Nat.le_of_ble_eq_true rfl), (Nat.le_of_ble_eq_true rfl), (Nat.le_of_ble_eq_true rfl), (Nat.le_of_ble_eq_true rfl)⟩ ⟨(Nat.le_of_ble_eq_true rfl), (Nat.le_of_ble_eq_true rfl)⟩ ⟨(Nat.le_of_ble_eq_true rfl), (Nat.le_of_ble_eq_true rfl)⟩ ⟨Or.inr ⟨hk, rfl⟩, rfl, rfl⟩
  · rcases inR_4 q_r with rfl | rfl | rfl | rfl
    · refine lv_tableIn (off := 29) (tgt := 36) hx hb dX7_spendOf_7 (by decide) (by decide) rfl (by decide) ?_
      refine lv_aload_n hx hb dX7_spendOf_36 rfl (lv_at hl 0 rfl) ?_
      refine k_get (index := 240) (j := 4) (ad := ad) (k := 8) (i := js) Z X (ct_8 (by first | assumption | omega | decide)) inlX4 rfl (by decide) (inU_8 _ (List.mem_of_getElem? (i := 22) rfl)) (fun _ h => h) (v := .int (S.1 12 js)) rfl dX7_spendOf_37 ?_
      have hk : cSpOf S (nI js) 0 = 0 := by simp [cSpOf, q_s, hcs, q_r]
      exact vx_ret (k_iret Z X hr hlocks rfl (Nat.le_of_ble_eq_true rfl) (Nat.le_of_ble_eq_true rfl) dX7_spendOf_40 ⟨⟨hk, by simp [rSpOf, hcs]⟩, rfl, rfl⟩)
    · refine lv_tableIn (off := 34) (tgt := 41) hx hb dX7_spendOf_7 (by decide) (by decide) rfl (by decide) ?_
      refine lv_aload_n hx hb dX7_spendOf_41 rfl (lv_at hl 0 rfl) ?_
      refine k_get (index := 241) (j := 1) (ad := ad) (k := 8) (i := js) Z X (ct_8 (by first | assumption | omega | decide)) inlX4 rfl (by decide) (inU_8 _ (List.mem_of_getElem? (i := 23) rfl)) (fun _ h => h) (v := .ref (ad 5 (S.2 3 js))) rfl dX7_spendOf_42 ?_
      refine k_get (index := 127) (j := 0) (ad := ad) (k := 5) (i := (S.2 3 js)) Z X (ct_5 h6s) inlX3 rfl (by decide) (inU_11 _ (List.mem_of_getElem? (i := 3) rfl)) (fun _ h => h) (v := .int (nI (S.2 3 js))) rfl dX7_spendOf_45 ?_
      have hk : cSpOf S (nI js) 1 = 0 := by simp [cSpOf, q_s, hcs, q_r]
      exact vx_ret (k_iret Z X hr hlocks rfl (Nat.le_of_ble_eq_true rfl) (Nat.le_of_ble_eq_true rfl) dX7_spendOf_48 ⟨⟨hk, by simp [rSpOf, hcs]⟩, rfl, rfl⟩)
    · refine lv_tableIn (off := 42) (tgt := 49) hx hb dX7_spendOf_7 (by decide) (by decide) rfl (by decide) ?_
      refine lv_aload_n hx hb dX7_spendOf_49 rfl (lv_at hl 0 rfl) ?_
      refine k_get (index := 245) (j := 2) (ad := ad) (k := 8) (i := js) Z X (ct_8 (by first | assumption | omega | decide)) inlX4 rfl (by decide) (inU_9 _ (List.mem_of_getElem? (i := 8) rfl)) (fun _ h => h) (v := .int (S.1 10 js)) rfl dX7_spendOf_50 ?_
      have hk : cSpOf S (nI js) 2 = 0 := by simp [cSpOf, q_s, hcs, q_r]
      exact vx_ret (k_iret Z X hr hlocks rfl (Nat.le_of_ble_eq_true rfl) (Nat.le_of_ble_eq_true rfl) dX7_spendOf_53 ⟨⟨hk, by simp [rSpOf, hcs]⟩, rfl, rfl⟩)
    · refine lv_tableIn (off := 47) (tgt := 54) hx hb dX7_spendOf_7 (by decide) (by decide) rfl (by decide) ?_
      refine lv_aload_n hx hb dX7_spendOf_54 rfl (lv_at hl 0 rfl) ?_
      refine k_get (index := 246) (j := 3) (ad := ad) (k := 8) (i := js) Z X (ct_8 (by first | assumption | omega | decide)) inlX4 rfl (by decide) (inU_9 _ (List.mem_of_getElem? (i := 2) rfl)) (fun _ h => h) (v := .int (S.1 11 js)) rfl dX7_spendOf_55 ?_
      have hk : cSpOf S (nI js) 3 = 0 := by simp [cSpOf, q_s, hcs, q_r]
      exact vx_ret (k_iret Z X hr hlocks rfl (Nat.le_of_ble_eq_true rfl) (Nat.le_of_ble_eq_true rfl) dX7_spendOf_58 ⟨⟨hk, by simp [rSpOf, hcs]⟩, rfl, rfl⟩)
theorem dX7_isApproved_0 : decode cX7_isApproved 0 = .ok (.aload_n 0, 1) := by decide +kernel
theorem dX7_isApproved_1 : decode cX7_isApproved 1 = .ok (.iload_n 1, 1) := by decide +kernel
theorem dX7_isApproved_2 : decode cX7_isApproved 2 = .ok (.invokevirtual 103, 3) := by decide +kernel
theorem dX7_isApproved_5 : decode cX7_isApproved 5 = .ok (.astore 4, 2) := by decide +kernel
theorem dX7_isApproved_7 : decode cX7_isApproved 7 = .ok (.iload_n 2, 1) := by decide +kernel
theorem dX7_isApproved_8 : decode cX7_isApproved 8 = .ok (.iconst 1, 1) := by decide +kernel
theorem dX7_isApproved_9 : decode cX7_isApproved 9 = .ok (.ldc 91, 2) := by decide +kernel
theorem dX7_isApproved_11 : decode cX7_isApproved 11 = .ok (.invokestatic 55, 3) := by decide +kernel
theorem dX7_isApproved_14 : decode cX7_isApproved 14 = .ok (.iload_n 3, 1) := by decide +kernel
theorem dX7_isApproved_15 : decode cX7_isApproved 15 = .ok (.ifCond .ne 16, 3) := by decide +kernel
theorem dX7_isApproved_18 : decode cX7_isApproved 18 = .ok (.aload_n 0, 1) := by decide +kernel
theorem dX7_isApproved_19 : decode cX7_isApproved 19 = .ok (.aload 4, 2) := by decide +kernel
theorem dX7_isApproved_21 : decode cX7_isApproved 21 = .ok (.getfield 139, 3) := by decide +kernel
theorem dX7_isApproved_24 : decode cX7_isApproved 24 = .ok (.aload 4, 2) := by decide +kernel
theorem dX7_isApproved_26 : decode cX7_isApproved 26 = .ok (.iload_n 2, 1) := by decide +kernel
theorem dX7_isApproved_27 : decode cX7_isApproved 27 = .ok (.invokevirtual 167, 3) := by decide +kernel
theorem dX7_isApproved_30 : decode cX7_isApproved 30 = .ok (.ireturn, 1) := by decide +kernel
theorem dX7_isApproved_31 : decode cX7_isApproved 31 = .ok (.aload_n 0, 1) := by decide +kernel
theorem dX7_isApproved_32 : decode cX7_isApproved 32 = .ok (.getfield 40, 3) := by decide +kernel
theorem dX7_isApproved_35 : decode cX7_isApproved 35 = .ok (.aload_n 0, 1) := by decide +kernel
theorem dX7_isApproved_36 : decode cX7_isApproved 36 = .ok (.getfield 47, 3) := by decide +kernel
theorem dX7_isApproved_39 : decode cX7_isApproved 39 = .ok (.iload_n 1, 1) := by decide +kernel
theorem dX7_isApproved_40 : decode cX7_isApproved 40 = .ok (.invokevirtual 232, 3) := by decide +kernel
theorem dX7_isApproved_43 : decode cX7_isApproved 43 = .ok (.aload_n 0, 1) := by decide +kernel
theorem dX7_isApproved_44 : decode cX7_isApproved 44 = .ok (.aload_n 0, 1) := by decide +kernel
theorem dX7_isApproved_45 : decode cX7_isApproved 45 = .ok (.getfield 47, 3) := by decide +kernel
theorem dX7_isApproved_48 : decode cX7_isApproved 48 = .ok (.aload 4, 2) := by decide +kernel
theorem dX7_isApproved_50 : decode cX7_isApproved 50 = .ok (.iload_n 2, 1) := by decide +kernel
theorem dX7_isApproved_51 : decode cX7_isApproved 51 = .ok (.invokevirtual 167, 3) := by decide +kernel
theorem dX7_isApproved_54 : decode cX7_isApproved 54 = .ok (.ireturn, 1) := by decide +kernel
set_option maxHeartbeats 4000000 in
set_option maxRecDepth 100000 in
theorem c_X7_isApproved (l : Launch) (E : State) (G : kG) (S T : kSt) (o : Int64) (ad : kAd) (xm xa xn : Int32) (hE : kE l E G) (hS : okN S) (hL : okL S) (hK9 : okK S) (hG : okLg S) (hRp : ∀ m, m < S.2 0 1 → ∀ u, u < 12 → rpl S m (S.1 18) (S.2 0 4) u = kdS S m u) : vx_Met l yX7_isApproved (.code yX7_isApproved cX7_isApproved 5 (some .boolean) :: wsL_law) ({ frames := 14, cells := 2, slots := 12, locals := 400 } : Room) (va_Pc [.ref (ad 0 0), .int xm, .int xa, .int xn] (kPre E G ad (cto G S T o ad))) (kQi E G (fun r ad1 ct1 => (cAppr S xm xa = 0 ∧ r = bI (rAprC S xm xa xn)) ∧ ad = ad1 ∧ ct1 = cto G (oAprC S xm xn) T o ad)) (kXC E G (fun x ad1 ct1 => ((cAppr S xm xa = 1 ∧ x = "java/lang/IndexOutOfBoundsException") ∨ (cAppr S xm xa = 2 ∧ x = "java/lang/IllegalArgumentException")) ∧ ad = ad1 ∧ ct1 = cto G S T o ad)) 2 12 (kB E.heap.size) := by
  refine vx_ofW (cc := cX7_isApproved) (maxL := 5) (ret := (some .boolean)) (by decide) rfl ?_
  intro p e s m args below meth c s₁ B hml hout hv
  obtain ⟨rfl, hM, hK, hW0⟩ := hv
  have hlocks := B.notSynchronized
  have hr := B.returns
  have Z : kZ p m c cX7_isApproved 5 s _ wsL_law RX7 E G := ⟨⟨B.exec, B.bytes, hml, findClass_of_methodNamed B.named, fun w h => atoms_spec (ws := .code yX7_isApproved cX7_isApproved 5 (some .boolean) :: wsL_law) B.pre w (List.mem_cons_of_mem _ h)⟩, hM, hK⟩
  have hx := Z.1.1
  have hb := Z.1.2.1
  have X := kX.of hW0
  have hl := lv_entry ([.ref (ad 0 0), .int xm, .int xa, .int xn]) (n := 5) (Nat.le_of_ble_eq_true rfl)
  rw [lg_entry_eq]
  generalize (lg_sl ([.ref (ad 0 0), .int xm, .int xa, .int xn]) ++ List.replicate (5 - (lg_sl ([.ref (ad 0 0), .int xm, .int xa, .int xn])).length) Slot.unset).toArray = ls at hl ⊢
  have hl : lv_has ls 5 [(0, .ref (ad 0 0)), (1, .int xm), (2, .int xa), (3, .int xn)] := hl
  obtain ⟨hT1, hT2, hT3, hT4, hT5, hT6, hT7⟩ := id hS
  refine lv_aload_n hx hb dX7_isApproved_0 rfl (lv_at hl 0 rfl) ?_
  refine lv_iload_n hx hb dX7_isApproved_1 rfl (lv_at hl 1 rfl) ?_
  refine k_xRq X (k_xrunV (As := [.int xm]) (rest := []) Z X (c_X7_messageAt l E G S T o ad xm hE hS hL) (k_cwV 1 Z.1.2.2.2.2 (inU_11 _ (List.mem_of_getElem? (i := 4) rfl)) (inU_11 _ (List.mem_of_getElem? (i := 5) rfl)) (inU_11 _ (List.mem_of_getElem? (i := 6) rfl)) (inU_1 _ (List.mem_of_getElem? (i := 2) rfl)) (inU_11 _ (List.mem_of_getElem? (i := 7) rfl)) rfl rfl (by decide +kernel) ⟨Nat.le_of_ble_eq_true rfl, Nat.le_of_ble_eq_true rfl⟩) (k_recv Z X ct_0 rfl) rfl hl.1 rfl (Nat.le_of_ble_eq_true rfl) dX7_isApproved_2 ⟨(Nat.le_of_ble_eq_true rfl), (Nat.le_of_ble_eq_true rfl)⟩) (fun x ce q9 ad1 ct1 H locs hp X x1 x2 x3 => ?_) (fun r_2 ad1 ct1 H locs hp X => ?_)
  · obtain ⟨⟨rfl, hq⟩, ha_, hb_⟩ := hp
    rw [← ha_, hb_] at X
    have hk : cAppr S xm xa = 1 := by simp [cAppr, hq]
    exact k_out hout hlocks X x1 x2 x3 ⟨Or.inl ⟨hk, rfl⟩, rfl, rfl⟩ (Nat.le_of_ble_eq_true rfl) (Nat.le_of_ble_eq_true rfl)
  obtain ⟨⟨jm, hjm, rfl, rfl⟩, ha_, hb_⟩ := hp
  rw [← ha_, hb_] at X
  have q_m : inB (nI jm) (S.2 0 1) = true := inB_nI hjm (by omega)
  have hcm : cl (nI jm) = jm := nI_clamp (by omega)
  have h5m := hT5 jm hjm
  refine lv_astore (lv' := [(4, .ref (ad 5 jm)), (0, .ref (ad 0 0)), (1, .int (nI jm)), (2, .int xa), (3, .int xn)]) hx hb dX7_isApproved_5 hl (by decide) rfl (fun ls hl => ?_)
  refine lv_iload_n hx hb dX7_isApproved_7 rfl (lv_at hl 3 rfl) ?_
  refine lv_iconst (v := 1) hx hb dX7_isApproved_8 (by decide) ?_
  refine lv_ldc (v := 1000000) hx hb Z.1.2.2.2.1 (Z.1.2.2.2.2 _ (inU_10 _ (List.mem_of_getElem? (i := 12) rfl))) dX7_isApproved_9 ?_
  refine k_xRv X (k_xrunS (As := [.int xa, .int 1, .int 1000000]) (rest := []) Z X (c_X7_checkRange l E G S T o ad xa 1 1000000 hE) (k_cwS 3 Z.1.2.2.2.2 (inU_6 _ (List.mem_of_getElem? (i := 16) rfl)) (inU_6 _ (List.mem_of_getElem? (i := 17) rfl)) (inU_1 _ (List.mem_of_getElem? (i := 2) rfl)) (inU_6 _ (List.mem_of_getElem? (i := 18) rfl)) rfl rfl (by decide +kernel) ⟨Nat.le_of_ble_eq_true rfl, Nat.le_of_ble_eq_true rfl⟩) rfl hl.1 rfl (Nat.le_of_ble_eq_true rfl) dX7_isApproved_11 ⟨(Nat.le_of_ble_eq_true rfl), (Nat.le_of_ble_eq_true rfl)⟩) (fun x ce q9 ad1 ct1 H locs hp X x1 x2 x3 => ?_) (fun ad1 ct1 H locs hp X => ?_)
  · obtain ⟨⟨rfl, hq⟩, ha_, hb_⟩ := hp
    rw [← ha_, hb_] at X
    have hk : cAppr S (nI jm) xa = 2 := by simp [cAppr, q_m, hcm, hq]
    exact k_out hout hlocks X x1 x2 x3 ⟨Or.inr ⟨hk, rfl⟩, rfl, rfl⟩ (Nat.le_of_ble_eq_true rfl) (Nat.le_of_ble_eq_true rfl)
  obtain ⟨q_r, ha_, hb_⟩ := hp
  rw [← ha_, hb_] at X
  refine lv_iload_n hx hb dX7_isApproved_14 rfl (lv_at hl 4 rfl) ?_
  refine lv_if_ne (tgt := 31) hx hb dX7_isApproved_15 (by decide) (fun c_15 => ?_) (fun c_15 => ?_)
  · refine lv_aload_n hx hb dX7_isApproved_31 rfl (lv_at hl 1 rfl) ?_
    refine k_get (index := 40) (j := 5) (ad := ad) (k := 0) (i := 0) Z X ct_0 inlX7 rfl (by decide) (inU_2 _ (List.mem_of_getElem? (i := 5) rfl)) (fun _ h => h) (v := .ref (ad 12 0)) rfl dX7_isApproved_32 ?_
    refine lv_aload_n hx hb dX7_isApproved_35 rfl (lv_at hl 1 rfl) ?_
    refine k_get (index := 47) (j := 6) (ad := ad) (k := 0) (i := 0) Z X ct_0 inlX7 rfl (by decide) (inU_2 _ (List.mem_of_getElem? (i := 9) rfl)) (fun _ h => h) (v := .ref (ad 14 0)) rfl dX7_isApproved_36 ?_
    refine lv_iload_n hx hb dX7_isApproved_39 rfl (lv_at hl 2 rfl) ?_
    refine k_Rv X (k_runV (As := [.ref (ad 14 0), .int (nI jm)]) (rest := []) Z X (c_X1_readInto l E G S T o ad jm hG) (k_cwV 2 Z.1.2.2.2.2 (inU_25 _ (List.mem_of_getElem? (i := 16) rfl)) (inU_25 _ (List.mem_of_getElem? (i := 17) rfl)) (inU_25 _ (List.mem_of_getElem? (i := 18) rfl)) (inU_2 _ (List.mem_of_getElem? (i := 4) rfl)) (inU_25 _ (List.mem_of_getElem? (i := 19) rfl)) rfl rfl (by decide +kernel) ⟨Nat.le_of_ble_eq_true rfl, Nat.le_of_ble_eq_true rfl⟩) (k_recv Z X ct_12 rfl) rfl hl.1 rfl (Nat.le_of_ble_eq_true rfl) dX7_isApproved_40 ⟨(by first | exact Nat.le_of_ble_eq_true rfl | (show _ ≤ (_ : Nat); simp only [headSpec]; omega)), (by first | exact Nat.le_of_ble_eq_true rfl | (show _ ≤ (_ : Nat); simp only [headSpec]; omega))⟩) (fun ad1 ct1 H locs hp X => ?_)
    obtain ⟨ha_, hb_⟩ := hp
    rw [← ha_, hb_] at X
    refine lv_aload_n hx hb dX7_isApproved_43 rfl (lv_at hl 1 rfl) ?_
    refine lv_aload_n hx hb dX7_isApproved_44 rfl (lv_at hl 1 rfl) ?_
    refine k_get (index := 47) (j := 6) (ad := ad) (k := 0) (i := 0) Z X ct_0 inlX7 rfl (by decide) (inU_2 _ (List.mem_of_getElem? (i := 9) rfl)) (fun _ h => h) (v := .ref (ad 14 0)) rfl dX7_isApproved_45 ?_
    refine lv_aload hx hb dX7_isApproved_48 (lv_at hl 0 rfl) ?_
    refine lv_iload_n hx hb dX7_isApproved_50 rfl (lv_at hl 3 rfl) ?_
    refine k_Ri X (k_runV (As := [.ref (ad 14 0), .ref (ad 5 jm), .int xa]) (rest := []) Z X (c_X7_approve l E G (sF S 18 (rpl S jm (S.1 18) (S.2 0 4))) T o ad 14 0 15 0 (rpl S jm (S.1 18) (S.2 0 4)) ct_14 (ct_15.trans (by rw [sF_s])) (okN_c rfl hS) (okL_c rfl hL) jm xa hjm (fun u hu => by rw [hRp jm hjm u hu]; exact hK9 _ u hjm hu)) (k_cwV 3 Z.1.2.2.2.2 (inU_9 _ (List.mem_of_getElem? (i := 10) rfl)) (inU_9 _ (List.mem_of_getElem? (i := 11) rfl)) (inU_9 _ (List.mem_of_getElem? (i := 12) rfl)) (inU_1 _ (List.mem_of_getElem? (i := 2) rfl)) (inU_9 _ (List.mem_of_getElem? (i := 13) rfl)) rfl rfl (by decide +kernel) ⟨Nat.le_of_ble_eq_true rfl, Nat.le_of_ble_eq_true rfl⟩) (k_recv Z X ct_0 rfl) rfl hl.1 rfl (Nat.le_of_ble_eq_true rfl) dX7_isApproved_51 ⟨(by first | exact Nat.le_of_ble_eq_true rfl | (show _ ≤ (_ : Nat); simp only [headSpec]; omega)), (by first | exact Nat.le_of_ble_eq_true rfl | (show _ ≤ (_ : Nat); simp only [headSpec]; omega))⟩) (fun r_51 ad1 ct1 H locs hp X => ?_)
    obtain ⟨rfl, ha_, hb_⟩ := hp
    rw [← ha_, hb_] at X
    have hk : cAppr S (nI jm) xa = 0 := by simp [cAppr, q_m, hcm, q_r, c_15]
    exact vx_ret (k_iret Z X hr hlocks bI_nar (Nat.le_of_ble_eq_true rfl) (Nat.le_of_ble_eq_true rfl) dX7_isApproved_54 ⟨⟨hk, by simp only [rAprC, hcm]; rw [if_neg c_15]; exact congrArg bI appr_sF⟩, rfl, by simp only [oAprC, hcm]; rw [if_neg c_15]⟩)
  · refine lv_aload_n hx hb dX7_isApproved_18 rfl (lv_at hl 1 rfl) ?_
    refine lv_aload hx hb dX7_isApproved_19 (lv_at hl 0 rfl) ?_
    refine k_get (index := 139) (j := 5) (ad := ad) (k := 5) (i := jm) Z X (ct_5 (by first | assumption | omega | decide)) inlX3 rfl (by decide) (inU_9 _ (List.mem_of_getElem? (i := 9) rfl)) (fun _ h => h) (v := .ref (ad 6 jm)) rfl dX7_isApproved_21 ?_
    refine lv_aload hx hb dX7_isApproved_24 (lv_at hl 0 rfl) ?_
    refine lv_iload_n hx hb dX7_isApproved_26 rfl (lv_at hl 3 rfl) ?_
    refine k_Ri X (k_runV (As := [.ref (ad 6 jm), .ref (ad 5 jm), .int xa]) (rest := []) Z X (c_X7_approve l E G S T o ad 6 jm 7 jm (kdS S jm) (ct_6 hjm) (ct_7 hjm) hS hL jm xa hjm (fun u hu => hK9 _ u hjm hu)) (k_cwV 3 Z.1.2.2.2.2 (inU_9 _ (List.mem_of_getElem? (i := 10) rfl)) (inU_9 _ (List.mem_of_getElem? (i := 11) rfl)) (inU_9 _ (List.mem_of_getElem? (i := 12) rfl)) (inU_1 _ (List.mem_of_getElem? (i := 2) rfl)) (inU_9 _ (List.mem_of_getElem? (i := 13) rfl)) rfl rfl (by decide +kernel) ⟨Nat.le_of_ble_eq_true rfl, Nat.le_of_ble_eq_true rfl⟩) (k_recv Z X ct_0 rfl) rfl hl.1 rfl (Nat.le_of_ble_eq_true rfl) dX7_isApproved_27 ⟨(by first | exact Nat.le_of_ble_eq_true rfl | (show _ ≤ (_ : Nat); simp only [headSpec]; omega)), (by first | exact Nat.le_of_ble_eq_true rfl | (show _ ≤ (_ : Nat); simp only [headSpec]; omega))⟩) (fun r_27 ad1 ct1 H locs hp X => ?_)
    obtain ⟨rfl, ha_, hb_⟩ := hp
    rw [← ha_, hb_] at X
    have hk : cAppr S (nI jm) xa = 0 := by simp [cAppr, q_m, hcm, q_r, c_15]
    exact vx_ret (k_iret Z X hr hlocks bI_nar (Nat.le_of_ble_eq_true rfl) (Nat.le_of_ble_eq_true rfl) dX7_isApproved_30 ⟨⟨hk, by simp only [rAprC, hcm]; rw [if_pos c_15]⟩, rfl, by simp only [oAprC, hcm]; rw [if_pos c_15]⟩)
/-- the first open task of u with so many ahead -/
def hit (S : kSt) (u : Nat) (r : Int32) (k : Nat) : Bool := opn S u k && decide (nI (rnk S u k (S.2 0 3)) = r)
def nxtC (S : kSt) (u : Nat) (r : Int32) : Nat → Int32
  | 0 => -1
  | n + 1 => if nxtC S u r n ≠ -1 then nxtC S u r n else if hit S u r n = true then nI n else -1
theorem nxtC_m {S : kSt} {u : Nat} {r : Int32} {k : Nat} (h : nxtC S u r k ≠ -1) : ∀ {n : Nat}, k ≤ n → nxtC S u r n = nxtC S u r k
  | 0, hk => by rw [show k = 0 by omega]
  | n + 1, hk => by
    by_cases e : k = n + 1
    · rw [e]
    · have ih := nxtC_m h (n := n) (by omega)
      simp only [nxtC]
      rw [if_pos (by rw [ih]; exact h), ih]
theorem nI_m1 {n : Nat} (h : n < 2 ^ 31) : nI n ≠ -1 := fun e => by
  have := nI_pos h
  rw [e] at this
  exact this (by decide)
theorem dX7_next_0 : decode cX7_next 0 = .ok (.aload_n 0, 1) := by decide +kernel
theorem dX7_next_1 : decode cX7_next 1 = .ok (.iload_n 1, 1) := by decide +kernel
theorem dX7_next_2 : decode cX7_next 2 = .ok (.invokevirtual 74, 3) := by decide +kernel
theorem dX7_next_5 : decode cX7_next 5 = .ok (.astore_n 3, 1) := by decide +kernel
theorem dX7_next_6 : decode cX7_next 6 = .ok (.iload_n 2, 1) := by decide +kernel
theorem dX7_next_7 : decode cX7_next 7 = .ok (.ifCond .ge 13, 3) := by decide +kernel
theorem dX7_next_10 : decode cX7_next 10 = .ok (.new 251, 3) := by decide +kernel
theorem dX7_next_13 : decode cX7_next 13 = .ok (.dup, 1) := by decide +kernel
theorem dX7_next_14 : decode cX7_next 14 = .ok (.ldc 253, 2) := by decide +kernel
theorem dX7_next_16 : decode cX7_next 16 = .ok (.invokespecial 255, 3) := by decide +kernel
theorem dX7_next_19 : decode cX7_next 19 = .ok (.athrow, 1) := by decide +kernel
theorem dX7_next_20 : decode cX7_next 20 = .ok (.iconst 0, 1) := by decide +kernel
theorem dX7_next_21 : decode cX7_next 21 = .ok (.istore 4, 2) := by decide +kernel
theorem dX7_next_23 : decode cX7_next 23 = .ok (.iload 4, 2) := by decide +kernel
theorem dX7_next_25 : decode cX7_next 25 = .ok (.aload_n 0, 1) := by decide +kernel
theorem dX7_next_26 : decode cX7_next 26 = .ok (.getfield 34, 3) := by decide +kernel
theorem dX7_next_29 : decode cX7_next 29 = .ok (.invokevirtual 59, 3) := by decide +kernel
theorem dX7_next_32 : decode cX7_next 32 = .ok (.if_icmp .ge 48, 3) := by decide +kernel
theorem dX7_next_35 : decode cX7_next 35 = .ok (.aload_n 0, 1) := by decide +kernel
theorem dX7_next_36 : decode cX7_next 36 = .ok (.getfield 34, 3) := by decide +kernel
theorem dX7_next_39 : decode cX7_next 39 = .ok (.iload 4, 2) := by decide +kernel
theorem dX7_next_41 : decode cX7_next 41 = .ok (.invokevirtual 210, 3) := by decide +kernel
theorem dX7_next_44 : decode cX7_next 44 = .ok (.checkcast 181, 3) := by decide +kernel
theorem dX7_next_47 : decode cX7_next 47 = .ok (.astore 5, 2) := by decide +kernel
theorem dX7_next_49 : decode cX7_next 49 = .ok (.aload 5, 2) := by decide +kernel
theorem dX7_next_51 : decode cX7_next 51 = .ok (.aload_n 3, 1) := by decide +kernel
theorem dX7_next_52 : decode cX7_next 52 = .ok (.invokevirtual 256, 3) := by decide +kernel
theorem dX7_next_55 : decode cX7_next 55 = .ok (.ifCond .eq 19, 3) := by decide +kernel
theorem dX7_next_58 : decode cX7_next 58 = .ok (.aload_n 0, 1) := by decide +kernel
theorem dX7_next_59 : decode cX7_next 59 = .ok (.aload 5, 2) := by decide +kernel
theorem dX7_next_61 : decode cX7_next 61 = .ok (.invokevirtual 260, 3) := by decide +kernel
theorem dX7_next_64 : decode cX7_next 64 = .ok (.iload_n 2, 1) := by decide +kernel
theorem dX7_next_65 : decode cX7_next 65 = .ok (.if_icmp .ne 9, 3) := by decide +kernel
theorem dX7_next_68 : decode cX7_next 68 = .ok (.aload 5, 2) := by decide +kernel
theorem dX7_next_70 : decode cX7_next 70 = .ok (.getfield 186, 3) := by decide +kernel
theorem dX7_next_73 : decode cX7_next 73 = .ok (.ireturn, 1) := by decide +kernel
theorem dX7_next_74 : decode cX7_next 74 = .ok (.iinc 4 1, 3) := by decide +kernel
theorem dX7_next_77 : decode cX7_next 77 = .ok (.goto (-54), 3) := by decide +kernel
theorem dX7_next_80 : decode cX7_next 80 = .ok (.iconst (-1), 1) := by decide +kernel
theorem dX7_next_81 : decode cX7_next 81 = .ok (.ireturn, 1) := by decide +kernel
set_option maxHeartbeats 4000000 in
set_option maxRecDepth 100000 in
theorem c_X7_next (l : Launch) (E : State) (G : kG) (S T : kSt) (o : Int64) (ad : kAd) (xu xr : Int32) (hE : kE l E G) (hS : okN S) (hL : okL S) : vx_Met l yX7_next (.code yX7_next cX7_next 6 (some .int) :: wsL_law) ({ frames := 14, cells := 2, slots := 12, locals := 400 } : Room) (va_Pc [.ref (ad 0 0), .int xu, .int xr] (kPre E G ad (cto G S T o ad))) (kQi E G (fun r ad1 ct1 => (cNext S xu xr = 0 ∧ r = nxtC S (cl xu) xr (S.2 0 3)) ∧ ad = ad1 ∧ ct1 = cto G (S) T o ad)) (kXC E G (fun x ad1 ct1 => ((cNext S xu xr = 1 ∧ x = "java/lang/IndexOutOfBoundsException")) ∧ ad = ad1 ∧ ct1 = cto G S T o ad)) 2 12 (kB E.heap.size) := by
  refine vx_ofW (cc := cX7_next) (maxL := 6) (ret := (some .int)) (by decide) rfl ?_
  intro p e s m args below meth c s₁ B hml hout hv
  obtain ⟨rfl, hM, hK, hW0⟩ := hv
  have hlocks := B.notSynchronized
  have hr := B.returns
  have Z : kZ p m c cX7_next 6 s _ wsL_law RX7 E G := ⟨⟨B.exec, B.bytes, hml, findClass_of_methodNamed B.named, fun w h => atoms_spec (ws := .code yX7_next cX7_next 6 (some .int) :: wsL_law) B.pre w (List.mem_cons_of_mem _ h)⟩, hM, hK⟩
  have hx := Z.1.1
  have hb := Z.1.2.1
  have X := kX.of hW0
  have hl := lv_entry ([.ref (ad 0 0), .int xu, .int xr]) (n := 6) (Nat.le_of_ble_eq_true rfl)
  rw [lg_entry_eq]
  generalize (lg_sl ([.ref (ad 0 0), .int xu, .int xr]) ++ List.replicate (6 - (lg_sl ([.ref (ad 0 0), .int xu, .int xr])).length) Slot.unset).toArray = ls at hl ⊢
  have hl : lv_has ls 6 [(0, .ref (ad 0 0)), (1, .int xu), (2, .int xr)] := hl
  obtain ⟨hT1, hT2, hT3, hT4, hT5, hT6, hT7⟩ := id hS
  refine lv_aload_n hx hb dX7_next_0 rfl (lv_at hl 0 rfl) ?_
  refine lv_iload_n hx hb dX7_next_1 rfl (lv_at hl 1 rfl) ?_
  refine k_xRq X (k_xrunV (As := [.int xu]) (rest := []) Z X (c_X7_userAt l E G S T o ad xu hE hS hL) (k_cwV 1 Z.1.2.2.2.2 (inU_7 _ (List.mem_of_getElem? (i := 18) rfl)) (inU_7 _ (List.mem_of_getElem? (i := 19) rfl)) (inU_7 _ (List.mem_of_getElem? (i := 20) rfl)) (inU_1 _ (List.mem_of_getElem? (i := 2) rfl)) (inU_7 _ (List.mem_of_getElem? (i := 21) rfl)) rfl rfl (by decide +kernel) ⟨Nat.le_of_ble_eq_true rfl, Nat.le_of_ble_eq_true rfl⟩) (k_recv Z X ct_0 rfl) rfl hl.1 rfl (Nat.le_of_ble_eq_true rfl) dX7_next_2 ⟨(Nat.le_of_ble_eq_true rfl), (Nat.le_of_ble_eq_true rfl)⟩) (fun x ce q9 ad1 ct1 H locs hp X x1 x2 x3 => ?_) (fun r_2 ad1 ct1 H locs hp X => ?_)
  · obtain ⟨⟨rfl, hq⟩, ha_, hb_⟩ := hp
    rw [← ha_, hb_] at X
    have hk : cNext S xu xr = 1 := by simp [cNext, hq]
    exact k_out hout hlocks X x1 x2 x3 ⟨⟨hk, rfl⟩, rfl, rfl⟩ (Nat.le_of_ble_eq_true rfl) (Nat.le_of_ble_eq_true rfl)
  obtain ⟨⟨ju, hju, rfl, rfl⟩, ha_, hb_⟩ := hp
  rw [← ha_, hb_] at X
  have q_u : inB (nI ju) (S.2 0 0) = true := inB_nI hju (by omega)
  have hcu : cl (nI ju) = ju := nI_clamp (by omega)
  refine lv_astore_n (lv' := [(3, .ref (ad 4 ju)), (0, .ref (ad 0 0)), (1, .int (nI ju)), (2, .int xr)]) hx hb dX7_next_5 rfl hl (by decide) rfl (fun ls hl => ?_)
  refine lv_iload_n hx hb dX7_next_6 rfl (lv_at hl 3 rfl) ?_
  refine lv_if_ge (tgt := 20) hx hb dX7_next_7 (by decide) (fun c_7 => ?_) (fun c_7 => ?_)
  · refine lv_iconst (v := 0) hx hb dX7_next_20 (by decide) ?_
    refine lv_istore (lv' := [(4, .int 0), (3, .ref (ad 4 ju)), (0, .ref (ad 0 0)), (1, .int (nI ju)), (2, .int xr)]) hx hb dX7_next_21 hl (by decide) rfl (fun ls hl => ?_)
    have LOOP_23 : ∀ (d : Nat) (n : Nat), n ≤ S.2 0 3 → nxtC S ju xr n = -1 → S.2 0 3 < n + d → ∀ (H : Heap) (locs : List Loc) (ls : Array Slot), kX E G s H locs ad (cto G S T o ad) → lv_has ls 6 [(4, .int (nI n)), (3, .ref (ad 4 ju)), (0, .ref (ad 0 0)), (1, .int (nI ju)), (2, .int xr)] → W p l e (headSpec (Cond.code yX7_next cX7_next 6 (some .int) :: wsL_law) ({ frames := 14, cells := 2, slots := 12, locals := 400 } : Room)).room s m ([.ref (ad 0 0), .int (nI ju), .int xr] : List Value).toArray below meth c H locs 1 6 (vx_MQ below (kQi E G (fun r ad1 ct1 => (cNext S (nI ju) xr = 0 ∧ r = nxtC S (cl (nI ju)) xr (S.2 0 3)) ∧ ad = ad1 ∧ ct1 = cto G (S) T o ad)) (kXC E G (fun x ad1 ct1 => ((cNext S (nI ju) xr = 1 ∧ x = "java/lang/IndexOutOfBoundsException")) ∧ ad = ad1 ∧ ct1 = cto G S T o ad)) ([.ref (ad 0 0), .int (nI ju), .int xr] : List Value).toArray s 2 12 (kB E.heap.size)) (F0 m 23 ls []) := by
      intro d
      induction d with
      | zero => intro n h1 hq h2; intros; exact absurd h2 (by omega)
      | succ d ih =>
        intro n h1 hq h2 H locs ls X hl
        refine lv_iload hx hb dX7_next_23 (lv_at hl 0 rfl) ?_
        refine lv_aload_n hx hb dX7_next_25 rfl (lv_at hl 2 rfl) ?_
        refine k_get (index := 34) (j := 4) (ad := ad) (k := 0) (i := 0) Z X ct_0 inlX7 rfl (by decide) (inU_2 _ (List.mem_of_getElem? (i := 1) rfl)) (fun _ h => h) (v := .ref (ad 1 4)) rfl dX7_next_26 ?_
        refine k_Ri X (k_runV (As := []) (rest := [.int (nI n)]) Z X (c_Jx4a65c_size_8abf5 l E G ad (cto G S T o ad) 4 _ _ (nI (S.2 0 3)) (ct_1 (by decide))) (k_cwV 0 Z.1.2.2.2.2 (inU_6 _ (List.mem_of_getElem? (i := 21) rfl)) (inU_6 _ (List.mem_of_getElem? (i := 22) rfl)) (inU_6 _ (List.mem_of_getElem? (i := 23) rfl)) (inU_1 _ (List.mem_of_getElem? (i := 17) rfl)) (inU_7 _ (List.mem_of_getElem? (i := 0) rfl)) rfl rfl (by decide +kernel) ⟨Nat.le_of_ble_eq_true rfl, Nat.le_of_ble_eq_true rfl⟩) (k_recv Z X (ct_1 (by decide)) rfl) rfl hl.1 rfl (Nat.le_of_ble_eq_true rfl) dX7_next_29 ⟨(by first | exact Nat.le_of_ble_eq_true rfl | (show _ ≤ (_ : Nat); simp only [headSpec]; omega)), (by first | exact Nat.le_of_ble_eq_true rfl | (show _ ≤ (_ : Nat); simp only [headSpec]; omega))⟩) (fun r_29 ad1 ct1 H locs hp X => ?_)
        obtain ⟨rfl, ha_, hb_⟩ := hp
        rw [← ha_, hb_] at X
        refine lv_icmp_ge (tgt := 80) hx hb dX7_next_32 (by decide) (fun c_32 => ?_) (fun c_32 => ?_)
        · have c_32 : (S.2 0 3) ≤ n := (nI_leI (a := (S.2 0 3)) (b := n) (by omega) (by omega)).mp c_32
          refine lv_iconst (v := (-1)) hx hb dX7_next_80 (by decide) ?_
          have hk : cNext S (nI ju) xr = 0 := by simp [cNext, q_u, c_7]
          have hn : n = S.2 0 3 := by omega
          subst hn
          exact vx_ret (k_iret Z X hr hlocks rfl (Nat.le_of_ble_eq_true rfl) (Nat.le_of_ble_eq_true rfl) dX7_next_81 ⟨⟨hk, by rw [hcu, hq]⟩, rfl, rfl⟩)
        · have c_32 : ¬ (S.2 0 3) ≤ n := fun h => c_32 ((nI_leI (a := (S.2 0 3)) (b := n) (by omega) (by omega)).mpr h)
          refine lv_aload_n hx hb dX7_next_35 rfl (lv_at hl 2 rfl) ?_
          refine k_get (index := 34) (j := 4) (ad := ad) (k := 0) (i := 0) Z X ct_0 inlX7 rfl (by decide) (inU_2 _ (List.mem_of_getElem? (i := 1) rfl)) (fun _ h => h) (v := .ref (ad 1 4)) rfl dX7_next_36 ?_
          refine lv_iload hx hb dX7_next_39 (lv_at hl 0 rfl) ?_
          refine k_Rq X (k_runV (As := [.int (nI n)]) (rest := []) Z X (c_getS l E G S T o ad 4 n (by decide) hL (by show _ < (_ : Nat); simp only [lcnt]; omega)) (k_cwV 1 Z.1.2.2.2.2 (inU_8 _ (List.mem_of_getElem? (i := 1) rfl)) (inU_8 _ (List.mem_of_getElem? (i := 2) rfl)) (inU_8 _ (List.mem_of_getElem? (i := 3) rfl)) (inU_1 _ (List.mem_of_getElem? (i := 17) rfl)) (inU_8 _ (List.mem_of_getElem? (i := 4) rfl)) rfl rfl (by decide +kernel) ⟨Nat.le_of_ble_eq_true rfl, Nat.le_of_ble_eq_true rfl⟩) (k_recv Z X (ct_1 (by decide)) rfl) rfl hl.1 rfl (Nat.le_of_ble_eq_true rfl) dX7_next_41 ⟨(by first | exact Nat.le_of_ble_eq_true rfl | (show _ ≤ (_ : Nat); simp only [headSpec]; omega)), (by first | exact Nat.le_of_ble_eq_true rfl | (show _ ≤ (_ : Nat); simp only [headSpec]; omega))⟩) (fun r_41 ad1 ct1 H locs hp X => ?_)
          obtain ⟨rfl, ha_, hb_⟩ := hp
          rw [← ha_, hb_] at X
          refine k_cast (r := (RX5, TX5, 6)) Z X (ct_9 (by first | assumption | omega | decide)) rfl (inU_13 _ (List.mem_of_getElem? (i := 4) rfl)) dX7_next_44 ?_
          refine lv_astore (lv' := [(5, .ref (ad 9 n)), (4, .int (nI n)), (3, .ref (ad 4 ju)), (0, .ref (ad 0 0)), (1, .int (nI ju)), (2, .int xr)]) hx hb dX7_next_47 hl (by decide) rfl (fun ls hl => ?_)
          refine lv_aload hx hb dX7_next_49 (lv_at hl 0 rfl) ?_
          refine lv_aload_n hx hb dX7_next_51 rfl (lv_at hl 2 rfl) ?_
          refine k_Ri X (k_runV (As := [.ref (ad 4 ju)]) (rest := []) Z X (c_X5_isOpenFor l E G S T o ad n ju (by omega) hju hS) (k_cwV 1 Z.1.2.2.2.2 (inU_26 _ (List.mem_of_getElem? (i := 10) rfl)) (inU_26 _ (List.mem_of_getElem? (i := 11) rfl)) (inU_26 _ (List.mem_of_getElem? (i := 12) rfl)) (inU_14 _ (List.mem_of_getElem? (i := 23) rfl)) (inU_26 _ (List.mem_of_getElem? (i := 13) rfl)) rfl rfl (by decide +kernel) ⟨Nat.le_of_ble_eq_true rfl, Nat.le_of_ble_eq_true rfl⟩) (k_recv Z X (ct_9 (by first | assumption | omega | decide)) rfl) rfl hl.1 rfl (Nat.le_of_ble_eq_true rfl) dX7_next_52 ⟨(by first | exact Nat.le_of_ble_eq_true rfl | (show _ ≤ (_ : Nat); simp only [headSpec]; omega)), (by first | exact Nat.le_of_ble_eq_true rfl | (show _ ≤ (_ : Nat); simp only [headSpec]; omega))⟩) (fun r_52 ad1 ct1 H locs hp X => ?_)
          obtain ⟨rfl, ha_, hb_⟩ := hp
          rw [← ha_, hb_] at X
          refine lv_if_eq (tgt := 74) hx hb dX7_next_55 (by decide) (fun c_55 => ?_) (fun c_55 => ?_)
          · have c_55 : opn S ju n = false := bI_0 c_55
            have hh : hit S ju xr n = false := by simp only [hit, c_55, Bool.false_and]
            refine lv_iinc (v := (nI (n + 1))) (lv' := [(4, .int (nI (n + 1))), (5, .ref (ad 9 n)), (3, .ref (ad 4 ju)), (0, .ref (ad 0 0)), (1, .int (nI ju)), (2, .int xr)]) hx hb dX7_next_74 hl (k := 1) rfl (nI_1 _) (by decide) rfl (fun ls hl => ?_)
            refine lv_goto (tgt := 23) hx hb dX7_next_77 (by decide) ?_
            have hq2 : nxtC S ju xr (n + 1) = -1 := by simp only [nxtC]; rw [if_neg (by rw [hq]; decide), if_neg (by rw [hh]; decide)]
            exact ih (n + 1) (by omega) hq2 (by omega) _ _ _ X (lv_sub hl [0, 2, 3, 4, 5] rfl)
          · have c_55 : opn S ju n = true := bI_1 c_55
            have e5 : S.2 5 n = ju := by simp only [opn, Bool.and_eq_true, decide_eq_true_eq] at c_55; exact c_55.1
            refine lv_aload_n hx hb dX7_next_58 rfl (lv_at hl 3 rfl) ?_
            refine lv_aload hx hb dX7_next_59 (lv_at hl 0 rfl) ?_
            refine k_Ri X (k_runV (As := [.ref (ad 9 n)]) (rest := []) Z X (c_X7_rankOf l E G S T o ad n (by omega) hS hL) (k_cwV 1 Z.1.2.2.2.2 (inU_26 _ (List.mem_of_getElem? (i := 14) rfl)) (inU_26 _ (List.mem_of_getElem? (i := 15) rfl)) (inU_26 _ (List.mem_of_getElem? (i := 16) rfl)) (inU_1 _ (List.mem_of_getElem? (i := 2) rfl)) (inU_26 _ (List.mem_of_getElem? (i := 17) rfl)) rfl rfl (by decide +kernel) ⟨Nat.le_of_ble_eq_true rfl, Nat.le_of_ble_eq_true rfl⟩) (k_recv Z X ct_0 rfl) rfl hl.1 rfl (Nat.le_of_ble_eq_true rfl) dX7_next_61 ⟨(by first | exact Nat.le_of_ble_eq_true rfl | (show _ ≤ (_ : Nat); simp only [headSpec]; omega)), (by first | exact Nat.le_of_ble_eq_true rfl | (show _ ≤ (_ : Nat); simp only [headSpec]; omega))⟩) (fun r_61 ad1 ct1 H locs hp X => ?_)
            obtain ⟨rfl, ha_, hb_⟩ := hp
            rw [← ha_, hb_] at X
            refine lv_iload_n hx hb dX7_next_64 rfl (lv_at hl 5 rfl) ?_
            refine lv_icmp_ne (tgt := 74) hx hb dX7_next_65 (by decide) (fun c_65 => ?_) (fun c_65 => ?_)
            · rw [e5] at c_65
              have hh : hit S ju xr n = false := by simp only [hit, c_55, Bool.true_and]; exact decide_eq_false c_65
              refine lv_iinc (v := (nI (n + 1))) (lv' := [(4, .int (nI (n + 1))), (5, .ref (ad 9 n)), (3, .ref (ad 4 ju)), (0, .ref (ad 0 0)), (1, .int (nI ju)), (2, .int xr)]) hx hb dX7_next_74 hl (k := 1) rfl (nI_1 _) (by decide) rfl (fun ls hl => ?_)
              refine lv_goto (tgt := 23) hx hb dX7_next_77 (by decide) ?_
              have hq2 : nxtC S ju xr (n + 1) = -1 := by simp only [nxtC]; rw [if_neg (by rw [hq]; decide), if_neg (by rw [hh]; decide)]
              exact ih (n + 1) (by omega) hq2 (by omega) _ _ _ X (lv_sub hl [0, 2, 3, 4, 5] rfl)
            · rw [e5] at c_65
              have hh : hit S ju xr n = true := by simp only [hit, c_55, Bool.true_and]; exact decide_eq_true c_65
              have hf : nxtC S ju xr (n + 1) = nI n := by simp only [nxtC]; rw [if_neg (by rw [hq]; decide), if_pos hh]
              refine lv_aload hx hb dX7_next_68 (lv_at hl 0 rfl) ?_
              refine k_get (index := 186) (j := 0) (ad := ad) (k := 9) (i := n) Z X (ct_9 (by first | assumption | omega | decide)) inlX5 rfl (by decide) (inU_15 _ (List.mem_of_getElem? (i := 0) rfl)) (fun _ h => h) (v := .int (nI n)) rfl dX7_next_70 ?_
              have hk : cNext S (nI ju) xr = 0 := by simp [cNext, q_u, c_7]
              exact vx_ret (k_iret Z X hr hlocks rfl (Nat.le_of_ble_eq_true rfl) (Nat.le_of_ble_eq_true rfl) dX7_next_73 ⟨⟨hk, by rw [hcu, nxtC_m (by rw [hf]; exact nI_m1 (by omega)) (show n + 1 ≤ S.2 0 3 by omega), hf]⟩, rfl, rfl⟩)
    exact LOOP_23 (S.2 0 3 + 1) 0 (by omega) rfl (by omega) _ _ _ X (lv_sub hl [0, 1, 2, 3, 4] rfl)
  · have hk : cNext S (nI ju) xr = 1 := by simp [cNext, q_u, hcu, c_7]
    exact k_throwS hE Z X hout hlocks hl.1 kThr_IOO (inU_7 _ (List.mem_of_getElem? (i := 22) rfl)) (inU_7 _ (List.mem_of_getElem? (i := 23) rfl)) (text := "no such rank") (List.mem_of_getElem? (i := 11) rfl) dX7_next_10 dX7_next_13 dX7_next_14 dX7_next_16 dX7_next_19 (Nat.le_of_ble_eq_true rfl) ⟨(Nat.le_of_ble_eq_true rfl), (Nat.le_of_ble_eq_true rfl), (Nat.le_of_ble_eq_true rfl), (Nat.le_of_ble_eq_true rfl)⟩ ⟨(Nat.le_of_ble_eq_true rfl), (Nat.le_of_ble_eq_true rfl)⟩ ⟨(Nat.le_of_ble_eq_true rfl), (Nat.le_of_ble_eq_true rfl)⟩ ⟨⟨hk, rfl⟩, rfl, rfl⟩
