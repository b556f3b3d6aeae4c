theorem dgs_lenk : ∀ (f k n : Nat), n < 10 ^ (k + 1) → (dgs f n).length ≤ k + 1
  | 0, _, _, _ => Nat.zero_le _
  | f + 1, 0, n, h => by
    have : n < 10 := by simpa using h
    simp only [dgs]
    rw [if_pos this]
    exact Nat.le_refl 1
  | f + 1, k + 1, n, h => by
    simp only [dgs]
    split
    · simp
    · have e1 : (10 : Nat) ^ (k + 1 + 1) = 10 ^ (k + 1) * 10 := Nat.pow_succ ..
      have := dgs_lenk f k (n / 10) (by omega)
      simp
      omega
theorem dgs_lt : ∀ (f n c : Nat), c ∈ dgs f n → c < 58
  | 0, _, _, h => absurd h List.not_mem_nil
  | f + 1, n, c, h => by
    simp only [dgs] at h
    split at h
    · simp at h; omega
    · rcases List.mem_append.mp h with h | h
      · exact dgs_lt f _ c h
      · simp at h; omega
theorem lab_lt (S : kSt) (t c : Nat) (h : c ∈ lab S t) : c < 65 := by
  simp only [lab, List.mem_append, List.mem_cons] at h
  rcases h with h | h | h | h | h | h | h
  · have := dgs_lt _ _ _ h; omega
  · omega
  · have := dgs_lt _ _ _ h; omega
  · omega
  · have := dgs_lt _ _ _ h; omega
  · omega
  · have := dgs_lt _ _ _ h; omega
theorem getD_lt {l : List Nat} {b : Nat} (h : ∀ c, c ∈ l → c < b) (hb : 0 < b) (i : Nat) : l.getD i 0 < b := by
  rw [List.getD_eq_getElem?_getD]
  cases hx : l[i]? with
  | none => exact hb
  | some c => exact h c (List.mem_of_getElem? hx)
theorem cl_lt (x : Int32) (h : ¬ x < 0) : cl x < 2 ^ 31 ∧ x = nI (cl x) := by
  obtain ⟨j, hj, rfl⟩ := nI_of h
  rw [show cl (nI j) = j from nI_clamp hj]
  exact ⟨hj, rfl⟩
theorem dX8_label_0 : decode cX8_label 0 = .ok (.aload_n 0, 1) := by decide +kernel
theorem dX8_label_1 : decode cX8_label 1 = .ok (.aload_n 0, 1) := by decide +kernel
theorem dX8_label_2 : decode cX8_label 2 = .ok (.iload_n 1, 1) := by decide +kernel
theorem dX8_label_3 : decode cX8_label 3 = .ok (.invokevirtual 135, 3) := by decide +kernel
theorem dX8_label_6 : decode cX8_label 6 = .ok (.ifCond .eq 11, 3) := by decide +kernel
theorem dX8_label_9 : decode cX8_label 9 = .ok (.iload_n 2, 1) := by decide +kernel
theorem dX8_label_10 : decode cX8_label 10 = .ok (.ifCond .lt 7, 3) := by decide +kernel
theorem dX8_label_13 : decode cX8_label 13 = .ok (.iconst 0, 1) := by decide +kernel
theorem dX8_label_14 : decode cX8_label 14 = .ok (.goto 4, 3) := by decide +kernel
theorem dX8_label_17 : decode cX8_label 17 = .ok (.iconst 1, 1) := by decide +kernel
theorem dX8_label_18 : decode cX8_label 18 = .ok (.invokevirtual 111, 3) := by decide +kernel
theorem dX8_label_21 : decode cX8_label 21 = .ok (.ifCond .eq 5, 3) := by decide +kernel
theorem dX8_label_24 : decode cX8_label 24 = .ok (.iconst 0, 1) := by decide +kernel
theorem dX8_label_25 : decode cX8_label 25 = .ok (.ireturn, 1) := by decide +kernel
theorem dX8_label_26 : decode cX8_label 26 = .ok (.aload_n 0, 1) := by decide +kernel
theorem dX8_label_27 : decode cX8_label 27 = .ok (.iconst 0, 1) := by decide +kernel
theorem dX8_label_28 : decode cX8_label 28 = .ok (.putfield 141, 3) := by decide +kernel
theorem dX8_label_31 : decode cX8_label 31 = .ok (.aload_n 0, 1) := by decide +kernel
theorem dX8_label_32 : decode cX8_label 32 = .ok (.aload_n 0, 1) := by decide +kernel
theorem dX8_label_33 : decode cX8_label 33 = .ok (.getfield 59, 3) := by decide +kernel
theorem dX8_label_36 : decode cX8_label 36 = .ok (.iload_n 1, 1) := by decide +kernel
theorem dX8_label_37 : decode cX8_label 37 = .ok (.iaload, 1) := by decide +kernel
theorem dX8_label_38 : decode cX8_label 38 = .ok (.invokevirtual 148, 3) := by decide +kernel
theorem dX8_label_41 : decode cX8_label 41 = .ok (.aload_n 0, 1) := by decide +kernel
theorem dX8_label_42 : decode cX8_label 42 = .ok (.bipush 46, 2) := by decide +kernel
theorem dX8_label_44 : decode cX8_label 44 = .ok (.invokevirtual 144, 3) := by decide +kernel
theorem dX8_label_47 : decode cX8_label 47 = .ok (.aload_n 0, 1) := by decide +kernel
theorem dX8_label_48 : decode cX8_label 48 = .ok (.aload_n 0, 1) := by decide +kernel
theorem dX8_label_49 : decode cX8_label 49 = .ok (.getfield 62, 3) := by decide +kernel
theorem dX8_label_52 : decode cX8_label 52 = .ok (.iload_n 1, 1) := by decide +kernel
theorem dX8_label_53 : decode cX8_label 53 = .ok (.iaload, 1) := by decide +kernel
theorem dX8_label_54 : decode cX8_label 54 = .ok (.invokevirtual 148, 3) := by decide +kernel
theorem dX8_label_57 : decode cX8_label 57 = .ok (.aload_n 0, 1) := by decide +kernel
theorem dX8_label_58 : decode cX8_label 58 = .ok (.bipush 62, 2) := by decide +kernel
theorem dX8_label_60 : decode cX8_label 60 = .ok (.invokevirtual 144, 3) := by decide +kernel
theorem dX8_label_63 : decode cX8_label 63 = .ok (.aload_n 0, 1) := by decide +kernel
theorem dX8_label_64 : decode cX8_label 64 = .ok (.aload_n 0, 1) := by decide +kernel
theorem dX8_label_65 : decode cX8_label 65 = .ok (.getfield 65, 3) := by decide +kernel
theorem dX8_label_68 : decode cX8_label 68 = .ok (.iload_n 1, 1) := by decide +kernel
theorem dX8_label_69 : decode cX8_label 69 = .ok (.iaload, 1) := by decide +kernel
theorem dX8_label_70 : decode cX8_label 70 = .ok (.invokevirtual 148, 3) := by decide +kernel
theorem dX8_label_73 : decode cX8_label 73 = .ok (.aload_n 0, 1) := by decide +kernel
theorem dX8_label_74 : decode cX8_label 74 = .ok (.bipush 64, 2) := by decide +kernel
theorem dX8_label_76 : decode cX8_label 76 = .ok (.invokevirtual 144, 3) := by decide +kernel
theorem dX8_label_79 : decode cX8_label 79 = .ok (.aload_n 0, 1) := by decide +kernel
theorem dX8_label_80 : decode cX8_label 80 = .ok (.aload_n 0, 1) := by decide +kernel
theorem dX8_label_81 : decode cX8_label 81 = .ok (.getfield 68, 3) := by decide +kernel
theorem dX8_label_84 : decode cX8_label 84 = .ok (.iload_n 1, 1) := by decide +kernel
theorem dX8_label_85 : decode cX8_label 85 = .ok (.iaload, 1) := by decide +kernel
theorem dX8_label_86 : decode cX8_label 86 = .ok (.invokevirtual 148, 3) := by decide +kernel
theorem dX8_label_89 : decode cX8_label 89 = .ok (.iload_n 2, 1) := by decide +kernel
theorem dX8_label_90 : decode cX8_label 90 = .ok (.aload_n 0, 1) := by decide +kernel
theorem dX8_label_91 : decode cX8_label 91 = .ok (.getfield 141, 3) := by decide +kernel
theorem dX8_label_94 : decode cX8_label 94 = .ok (.if_icmp .ge 13, 3) := by decide +kernel
theorem dX8_label_97 : decode cX8_label 97 = .ok (.aload_n 0, 1) := by decide +kernel
theorem dX8_label_98 : decode cX8_label 98 = .ok (.getfield 74, 3) := by decide +kernel
theorem dX8_label_101 : decode cX8_label 101 = .ok (.iload_n 2, 1) := by decide +kernel
theorem dX8_label_102 : decode cX8_label 102 = .ok (.iaload, 1) := by decide +kernel
theorem dX8_label_103 : decode cX8_label 103 = .ok (.i2c, 1) := by decide +kernel
theorem dX8_label_104 : decode cX8_label 104 = .ok (.goto 4, 3) := by decide +kernel
theorem dX8_label_107 : decode cX8_label 107 = .ok (.iconst 0, 1) := by decide +kernel
theorem dX8_label_108 : decode cX8_label 108 = .ok (.ireturn, 1) := by decide +kernel
set_option maxHeartbeats 4000000 in
set_option maxRecDepth 100000 in
theorem c_X8_label (l : Launch) (E : State) (G : kG) (S T : kSt) (o : Int64) (ad : kAd) (xt xp : Int32) (hT : okN T) (hv : ∀ j, j < T.2 0 3 → ¬ T.1 20 j < 0 ∧ ¬ T.1 13 j < 0) : Met l yX8_label (.code yX8_label cX8_label 3 (some .char) :: wsL_law) ({ frames := 5, cells := 0, slots := 0, locals := 110 } : Room) (va_Pc [.ref (ad 16 0), .int xt, .int xp] (kPre E G ad (cto G S T o ad))) (kQi E G (fun r ad1 ct1 => (cLabel T xt xp = 0 → r = rLabel T xt xp) ∧ ad = ad1 ∧ ∃ T1 : kSt, ct1 = cto G S T1 o ad ∧ T1.1 24 0 = cLabel T xt xp ∧ (∀ f j, f ≠ 23 → f ≠ 24 → T1.1 f j = T.1 f j) ∧ ∀ f j, ¬ (f = 0 ∧ j = 5) → T1.2 f j = T.2 f j)) 0 0 (kB E.heap.size) := by
  refine Met.ofW (cc := cX8_label) (maxL := 3) (ret := (some .char)) (by decide) rfl ?_
  intro p e s m args below meth c s₁ B hml hv
  obtain ⟨rfl, hM, hK, hW0⟩ := hv
  have hlocks := B.notSynchronized
  have hr := B.returns
  have Z : kZ p m c cX8_label 3 s _ wsL_law RX8 E G := ⟨⟨B.exec, B.bytes, hml, findClass_of_methodNamed B.named, fun w h => atoms_spec (ws := .code yX8_label cX8_label 3 (some .char) :: wsL_law) B.pre w (List.mem_cons_of_mem _ h)⟩, hM, hK⟩
  have hx := Z.1.1
  have hb := Z.1.2.1
  have X := kX.of hW0
  have hl := lv_entry ([.ref (ad 16 0), .int xt, .int xp]) (n := 3) (Nat.le_of_ble_eq_true rfl)
  rw [lg_entry_eq]
  generalize (lg_sl ([.ref (ad 16 0), .int xt, .int xp]) ++ List.replicate (3 - (lg_sl ([.ref (ad 16 0), .int xt, .int xp])).length) Slot.unset).toArray = ls at hl ⊢
  have hl : lv_has ls 3 [(0, .ref (ad 16 0)), (1, .int xt), (2, .int xp)] := hl
  have hT0 := hT
  obtain ⟨hT1, hT2, hT3, hT4, hT5, hT6, hT7⟩ := hT0
  refine lv_aload_n hx hb dX8_label_0 rfl (lv_at hl 0 rfl) ?_
  refine lv_aload_n hx hb dX8_label_1 rfl (lv_at hl 0 rfl) ?_
  refine lv_iload_n hx hb dX8_label_2 rfl (lv_at hl 1 rfl) ?_
  refine k_Ri X (k_runV (As := [.int xt]) (rest := [.ref (ad 16 0)]) Z X (c_X8_isTask l E G S T o ad xt (by omega)) (k_cwV 1 Z.1.2.2.2.2 (inU_30 _ (List.mem_of_getElem? (i := 4) rfl)) (inU_30 _ (List.mem_of_getElem? (i := 5) rfl)) (inU_30 _ (List.mem_of_getElem? (i := 6) rfl)) (inU_1 _ (List.mem_of_getElem? (i := 5) rfl)) (inU_30 _ (List.mem_of_getElem? (i := 7) rfl)) rfl rfl (by decide +kernel) ⟨Nat.le_of_ble_eq_true rfl, Nat.le_of_ble_eq_true rfl⟩) (k_recv Z X ct_16 rfl) rfl hl.1 rfl (Nat.le_of_ble_eq_true rfl) dX8_label_3 ⟨Nat.le_of_ble_eq_true rfl, Nat.le_of_ble_eq_true rfl⟩) (fun r_3 ad1 ct1 H locs hp X => ?_)
  obtain ⟨rfl, rfl, rfl⟩ := hp
  refine lv_if_eq (tgt := 17) hx hb dX8_label_6 (by decide) (fun c_6 => ?_) (fun c_6 => ?_)
  · have c_6 : inB xt (T.2 0 3) = false := bI_0 c_6
    refine lv_iconst (v := 1) hx hb dX8_label_17 (by decide) ?_
    refine k_Ri X (k_runV (As := [.int 1]) (rest := []) Z X (c_X8_fails l E G S T o ad 1) (k_cwV 1 Z.1.2.2.2.2 (inU_9 _ (List.mem_of_getElem? (i := 2) rfl)) (inU_9 _ (List.mem_of_getElem? (i := 3) rfl)) (inU_9 _ (List.mem_of_getElem? (i := 4) rfl)) (inU_1 _ (List.mem_of_getElem? (i := 5) rfl)) (inU_9 _ (List.mem_of_getElem? (i := 5) rfl)) rfl rfl (by decide +kernel) ⟨Nat.le_of_ble_eq_true rfl, Nat.le_of_ble_eq_true rfl⟩) (k_recv Z X ct_16 rfl) rfl hl.1 rfl (Nat.le_of_ble_eq_true rfl) dX8_label_18 ⟨Nat.le_of_ble_eq_true rfl, Nat.le_of_ble_eq_true rfl⟩) (fun r_18 ad1 ct1 H locs hp X => ?_)
    obtain ⟨rfl, rfl, rfl⟩ := hp
    refine lv_topi (fun x_18 e_18 => ?_)
    obtain rfl : x_18 = 1 := e_18.trans (by decide)
    refine lv_if_eq (tgt := 26) hx hb dX8_label_21 (by decide) (fun c_21 => ?_) (fun c_21 => ?_)
    · exact absurd c_21 (by decide)
    · refine lv_iconst (v := 0) hx hb dX8_label_24 (by decide) ?_
      have hk : cLabel T xt xp = 1 := by rw [cLabel, if_pos (by rw [c_6]; rfl)]
      exact k_iret Z X hr hlocks rfl (Nat.le_of_ble_eq_true rfl) (Nat.le_of_ble_eq_true rfl) dX8_label_25 ⟨fun h => absurd (hk.symm.trans h) (by decide), rfl, _, rfl, by rw [hk]; exact sI_s, fun f j _ h => sI_f h, fun f j _ => rfl⟩
  · have c_6 : inB xt (T.2 0 3) = true := bI_1 c_6
    obtain ⟨jt, hjt, hxt⟩ := inB_of c_6 (by omega)
    subst hxt
    have hct : cl (nI jt) = jt := nI_clamp (by omega)
    refine lv_iload_n hx hb dX8_label_9 rfl (lv_at hl 2 rfl) ?_
    refine lv_if_lt (tgt := 17) hx hb dX8_label_10 (by decide) (fun c_10 => ?_) (fun c_10 => ?_)
    · have c_10 : decide (0 ≤ xp) = false := decide_eq_false (Int32.not_le.mpr c_10)
      refine lv_iconst (v := 1) hx hb dX8_label_17 (by decide) ?_
      refine k_Ri X (k_runV (As := [.int 1]) (rest := []) Z X (c_X8_fails l E G S T o ad 1) (k_cwV 1 Z.1.2.2.2.2 (inU_9 _ (List.mem_of_getElem? (i := 2) rfl)) (inU_9 _ (List.mem_of_getElem? (i := 3) rfl)) (inU_9 _ (List.mem_of_getElem? (i := 4) rfl)) (inU_1 _ (List.mem_of_getElem? (i := 5) rfl)) (inU_9 _ (List.mem_of_getElem? (i := 5) rfl)) rfl rfl (by decide +kernel) ⟨Nat.le_of_ble_eq_true rfl, Nat.le_of_ble_eq_true rfl⟩) (k_recv Z X ct_16 rfl) rfl hl.1 rfl (Nat.le_of_ble_eq_true rfl) dX8_label_18 ⟨Nat.le_of_ble_eq_true rfl, Nat.le_of_ble_eq_true rfl⟩) (fun r_18 ad1 ct1 H locs hp X => ?_)
      obtain ⟨rfl, rfl, rfl⟩ := hp
      refine lv_topi (fun x_18 e_18 => ?_)
      obtain rfl : x_18 = 1 := e_18.trans (by decide)
      refine lv_if_eq (tgt := 26) hx hb dX8_label_21 (by decide) (fun c_21 => ?_) (fun c_21 => ?_)
      · exact absurd c_21 (by decide)
      · refine lv_iconst (v := 0) hx hb dX8_label_24 (by decide) ?_
        have hk : cLabel T (nI jt) xp = 1 := by rw [cLabel, if_pos (by rw [c_6, c_10]; decide)]
        exact k_iret Z X hr hlocks rfl (Nat.le_of_ble_eq_true rfl) (Nat.le_of_ble_eq_true rfl) dX8_label_25 ⟨fun h => absurd (hk.symm.trans h) (by decide), rfl, _, rfl, by rw [hk]; exact sI_s, fun f j _ h => sI_f h, fun f j _ => rfl⟩
    · obtain ⟨jp, hjp, hxp⟩ := nI_of c_10
      have c_10 : decide (0 ≤ xp) = true := decide_eq_true (Int32.not_lt.mp c_10)
      subst hxp
      have hcp : cl (nI jp) = jp := nI_clamp hjp
      refine lv_iconst (v := 0) hx hb dX8_label_13 (by decide) ?_
      refine lv_goto (tgt := 18) hx hb dX8_label_14 (by decide) ?_
      refine k_Ri X (k_runV (As := [.int 0]) (rest := []) Z X (c_X8_fails l E G S T o ad 0) (k_cwV 1 Z.1.2.2.2.2 (inU_9 _ (List.mem_of_getElem? (i := 2) rfl)) (inU_9 _ (List.mem_of_getElem? (i := 3) rfl)) (inU_9 _ (List.mem_of_getElem? (i := 4) rfl)) (inU_1 _ (List.mem_of_getElem? (i := 5) rfl)) (inU_9 _ (List.mem_of_getElem? (i := 5) rfl)) rfl rfl (by decide +kernel) ⟨Nat.le_of_ble_eq_true rfl, Nat.le_of_ble_eq_true rfl⟩) (k_recv Z X ct_16 rfl) rfl hl.1 rfl (Nat.le_of_ble_eq_true rfl) dX8_label_18 ⟨Nat.le_of_ble_eq_true rfl, Nat.le_of_ble_eq_true rfl⟩) (fun r_18 ad1 ct1 H locs hp X => ?_)
      obtain ⟨rfl, rfl, rfl⟩ := hp
      refine lv_topi (fun x_18 e_18 => ?_)
      obtain rfl : x_18 = 0 := e_18.trans (by decide)
      refine lv_if_eq (tgt := 26) hx hb dX8_label_21 (by decide) (fun c_21 => ?_) (fun c_21 => ?_)
      · refine lv_aload_n hx hb dX8_label_26 rfl (lv_at hl 0 rfl) ?_
        refine lv_iconst (v := 0) hx hb dX8_label_27 (by decide) ?_
        refine lv_topi (fun x_27 e_27 => ?_)
        obtain rfl : x_27 = nI 0 := e_27.trans (rfl)
        refine k_put (index := 141) (j := 27) (k := 16) (i := 0) Z X ct_16 inlX8 tyX8_ok nmX8 rfl (by decide) (inU_37 _ (List.mem_of_getElem? (i := 19) rfl)) (fun _ h => h) rfl (Nat.le_of_ble_eq_true rfl) rfl rfl dX8_label_28 (fun H locs X => ?_)
        have X : kX E G s H locs ad (cto G S (sN (sI T 24 0 0) 0 5 0) o ad) := X.eq (st_written _)
        obtain ⟨v1, v2⟩ := hv jt hjt
        obtain ⟨w1, w2⟩ := cl_lt _ v1
        obtain ⟨w3, w4⟩ := cl_lt _ v2
        have h7 := hT7 jt hjt
        obtain ⟨Ta, hTa⟩ : ∃ z, z = (sN (sI T 24 0 0) 0 5 0) := ⟨_, rfl⟩
        have X : kX E G s H locs ad (cto G S Ta o ad) := by rw [hTa]; exact X
        have aw : Ta.2 0 5 = 0 := by rw [hTa]; exact sN_s
        have a2 : ∀ f j, ¬ (f = 0 ∧ j = 5) → Ta.2 f j = T.2 f j := fun f j h => by rw [hTa]; simp only [sN, sI]; rw [if_neg h]
        have a1 : ∀ f j, f ≠ 23 → f ≠ 24 → Ta.1 f j = T.1 f j := fun f j _ h => by rw [hTa]; exact sI_f h
        have a24 : Ta.1 24 0 = 0 := by rw [hTa]; rfl
        refine lv_aload_n hx hb dX8_label_31 rfl (lv_at hl 0 rfl) ?_
        refine lv_aload_n hx hb dX8_label_32 rfl (lv_at hl 0 rfl) ?_
        refine k_get (index := 59) (j := 21) (ad := ad) (k := 16) (i := 0) Z X ct_16 inlX8 rfl (by decide) (inU_6 _ (List.mem_of_getElem? (i := 23) rfl)) (fun _ h => h) (v := .ref (ad 17 16)) rfl dX8_label_33 ?_
        refine lv_iload_n hx hb dX8_label_36 rfl (lv_at hl 1 rfl) ?_
        refine k_ild (ad := ad) (k := 17) (i := 16) Z X ct_17_16 (vp_in_nI (by first | assumption | omega) (by decide)) dX8_label_37 ?_
        refine lv_topi (fun x_37 e_37 => ?_)
        obtain rfl : x_37 = nI (Ta.2 4 jt) := e_37.trans (by first | (simp only [nI_clamp (show jt < 2 ^ 31 by omega)]; done) | (simp only [nI_clamp (show jt < 2 ^ 31 by omega)]; rfl) | (simp only [nI_clamp (show jt < 2 ^ 31 by omega)]; simp [sI, sN]; done))
        refine lv_topi (fun x_37 e_37 => ?_)
        obtain rfl : x_37 = nI (T.2 4 jt) := e_37.trans (by rw [a2 4 jt (by omega)])
        refine k_Rv X (k_runV (As := [.int (nI (T.2 4 jt))]) (rest := []) Z X (c_X8_putsNumber l E G S Ta o ad (T.2 4 jt) (by omega) (by omega)) (k_cwV 1 Z.1.2.2.2.2 (inU_37 _ (List.mem_of_getElem? (i := 20) rfl)) (inU_37 _ (List.mem_of_getElem? (i := 21) rfl)) (inU_37 _ (List.mem_of_getElem? (i := 22) rfl)) (inU_1 _ (List.mem_of_getElem? (i := 5) rfl)) (inU_37 _ (List.mem_of_getElem? (i := 23) rfl)) rfl rfl (by decide +kernel) ⟨Nat.le_of_ble_eq_true rfl, Nat.le_of_ble_eq_true rfl⟩) (k_recv Z X ct_16 rfl) rfl hl.1 rfl (Nat.le_of_ble_eq_true rfl) dX8_label_38 ⟨Nat.le_of_ble_eq_true rfl, Nat.le_of_ble_eq_true rfl⟩) (fun ad1 ct1 H locs hp X => ?_)
        obtain ⟨rfl, rfl⟩ := hp
        obtain ⟨b5, b2, b1, b3, b4⟩ := wr_r (dgs 20 (T.2 4 jt)) Ta
        have hlen := dgs_lenk 20 1 (T.2 4 jt) (by omega)
        obtain ⟨Tb, hTb⟩ : ∃ z, z = wr Ta (dgs 20 (T.2 4 jt)) := ⟨_, rfl⟩
        rw [← hTb] at X b5 b2 b1
        have wTb : Tb.2 0 5 ≤ Ta.2 0 5 + 2 := by omega
        have eTb : ∀ f j, ¬ (f = 0 ∧ j = 5) → Tb.2 f j = T.2 f j := fun f j h => (b2 f j h).trans (a2 f j h)
        have iTb : ∀ f j, f ≠ 23 → Tb.1 f j = Ta.1 f j := fun f j h => (b1 f j h)
        clear b5 b2 b1 b3 b4 hlen
        refine lv_aload_n hx hb dX8_label_41 rfl (lv_at hl 0 rfl) ?_
        refine lv_bipush (v := 46) hx hb dX8_label_42 (by decide) ?_
        refine k_Rv X (k_runV (As := [.int 46]) (rest := []) Z X (c_X8_puts l E G S Tb o ad 46 (by omega)) (k_cwV 1 Z.1.2.2.2.2 (inU_38 _ (List.mem_of_getElem? (i := 0) rfl)) (inU_38 _ (List.mem_of_getElem? (i := 1) rfl)) (inU_38 _ (List.mem_of_getElem? (i := 2) rfl)) (inU_1 _ (List.mem_of_getElem? (i := 5) rfl)) (inU_38 _ (List.mem_of_getElem? (i := 3) rfl)) rfl rfl (by decide +kernel) ⟨Nat.le_of_ble_eq_true rfl, Nat.le_of_ble_eq_true rfl⟩) (k_recv Z X ct_16 rfl) rfl hl.1 rfl (Nat.le_of_ble_eq_true rfl) dX8_label_44 ⟨Nat.le_of_ble_eq_true rfl, Nat.le_of_ble_eq_true rfl⟩) (fun ad1 ct1 H locs hp X => ?_)
        obtain ⟨rfl, rfl⟩ := hp
        obtain ⟨b5, b2, b1, b3, b4⟩ := wr_r [46] Tb
        obtain ⟨Tc, hTc⟩ : ∃ z, z = wr Tb [46] := ⟨_, rfl⟩
        rw [← hTc] at X b5 b2 b1
        have wTc : Tc.2 0 5 ≤ Tb.2 0 5 + 1 := Nat.le_of_eq b5
        have eTc : ∀ f j, ¬ (f = 0 ∧ j = 5) → Tc.2 f j = T.2 f j := fun f j h => (b2 f j h).trans (eTb f j h)
        have iTc : ∀ f j, f ≠ 23 → Tc.1 f j = Ta.1 f j := fun f j h => (b1 f j h).trans (iTb f j h)
        clear b5 b2 b1 b3 b4
        refine lv_aload_n hx hb dX8_label_47 rfl (lv_at hl 0 rfl) ?_
        refine lv_aload_n hx hb dX8_label_48 rfl (lv_at hl 0 rfl) ?_
        refine k_get (index := 62) (j := 22) (ad := ad) (k := 16) (i := 0) Z X ct_16 inlX8 rfl (by decide) (inU_7 _ (List.mem_of_getElem? (i := 0) rfl)) (fun _ h => h) (v := .ref (ad 17 17)) rfl dX8_label_49 ?_
        refine lv_iload_n hx hb dX8_label_52 rfl (lv_at hl 1 rfl) ?_
        refine k_ild (ad := ad) (k := 17) (i := 17) Z X ct_17_17 (vp_in_nI (by first | assumption | omega) (by decide)) dX8_label_53 ?_
        refine lv_topi (fun x_53 e_53 => ?_)
        obtain rfl : x_53 = Tc.1 20 jt := e_53.trans (by first | (simp only [nI_clamp (show jt < 2 ^ 31 by omega)]; done) | (simp only [nI_clamp (show jt < 2 ^ 31 by omega)]; rfl) | (simp only [nI_clamp (show jt < 2 ^ 31 by omega)]; simp [sI, sN]; done))
        refine lv_topi (fun x_53 e_53 => ?_)
        obtain rfl : x_53 = nI (cl (T.1 20 jt)) := e_53.trans (by rw [iTc 20 jt (by decide), a1 20 jt (by decide) (by decide)]; exact w2)
        refine k_Rv X (k_runV (As := [.int (nI (cl (T.1 20 jt)))]) (rest := []) Z X (c_X8_putsNumber l E G S Tc o ad (cl (T.1 20 jt)) (by omega) (by omega)) (k_cwV 1 Z.1.2.2.2.2 (inU_37 _ (List.mem_of_getElem? (i := 20) rfl)) (inU_37 _ (List.mem_of_getElem? (i := 21) rfl)) (inU_37 _ (List.mem_of_getElem? (i := 22) rfl)) (inU_1 _ (List.mem_of_getElem? (i := 5) rfl)) (inU_37 _ (List.mem_of_getElem? (i := 23) rfl)) rfl rfl (by decide +kernel) ⟨Nat.le_of_ble_eq_true rfl, Nat.le_of_ble_eq_true rfl⟩) (k_recv Z X ct_16 rfl) rfl hl.1 rfl (Nat.le_of_ble_eq_true rfl) dX8_label_54 ⟨Nat.le_of_ble_eq_true rfl, Nat.le_of_ble_eq_true rfl⟩) (fun ad1 ct1 H locs hp X => ?_)
        obtain ⟨rfl, rfl⟩ := hp
        obtain ⟨b5, b2, b1, b3, b4⟩ := wr_r (dgs 20 (cl (T.1 20 jt))) Tc
        have hlen := dgs_lenk 20 9 (cl (T.1 20 jt)) (by omega)
        obtain ⟨Td, hTd⟩ : ∃ z, z = wr Tc (dgs 20 (cl (T.1 20 jt))) := ⟨_, rfl⟩
        rw [← hTd] at X b5 b2 b1
        have wTd : Td.2 0 5 ≤ Tc.2 0 5 + 10 := by omega
        have eTd : ∀ f j, ¬ (f = 0 ∧ j = 5) → Td.2 f j = T.2 f j := fun f j h => (b2 f j h).trans (eTc f j h)
        have iTd : ∀ f j, f ≠ 23 → Td.1 f j = Ta.1 f j := fun f j h => (b1 f j h).trans (iTc f j h)
        clear b5 b2 b1 b3 b4 hlen
        refine lv_aload_n hx hb dX8_label_57 rfl (lv_at hl 0 rfl) ?_
        refine lv_bipush (v := 62) hx hb dX8_label_58 (by decide) ?_
        refine k_Rv X (k_runV (As := [.int 62]) (rest := []) Z X (c_X8_puts l E G S Td o ad 62 (by omega)) (k_cwV 1 Z.1.2.2.2.2 (inU_38 _ (List.mem_of_getElem? (i := 0) rfl)) (inU_38 _ (List.mem_of_getElem? (i := 1) rfl)) (inU_38 _ (List.mem_of_getElem? (i := 2) rfl)) (inU_1 _ (List.mem_of_getElem? (i := 5) rfl)) (inU_38 _ (List.mem_of_getElem? (i := 3) rfl)) rfl rfl (by decide +kernel) ⟨Nat.le_of_ble_eq_true rfl, Nat.le_of_ble_eq_true rfl⟩) (k_recv Z X ct_16 rfl) rfl hl.1 rfl (Nat.le_of_ble_eq_true rfl) dX8_label_60 ⟨Nat.le_of_ble_eq_true rfl, Nat.le_of_ble_eq_true rfl⟩) (fun ad1 ct1 H locs hp X => ?_)
        obtain ⟨rfl, rfl⟩ := hp
        obtain ⟨b5, b2, b1, b3, b4⟩ := wr_r [62] Td
        obtain ⟨Te, hTe⟩ : ∃ z, z = wr Td [62] := ⟨_, rfl⟩
        rw [← hTe] at X b5 b2 b1
        have wTe : Te.2 0 5 ≤ Td.2 0 5 + 1 := Nat.le_of_eq b5
        have eTe : ∀ f j, ¬ (f = 0 ∧ j = 5) → Te.2 f j = T.2 f j := fun f j h => (b2 f j h).trans (eTd f j h)
        have iTe : ∀ f j, f ≠ 23 → Te.1 f j = Ta.1 f j := fun f j h => (b1 f j h).trans (iTd f j h)
        clear b5 b2 b1 b3 b4
        refine lv_aload_n hx hb dX8_label_63 rfl (lv_at hl 0 rfl) ?_
        refine lv_aload_n hx hb dX8_label_64 rfl (lv_at hl 0 rfl) ?_
        refine k_get (index := 65) (j := 23) (ad := ad) (k := 16) (i := 0) Z X ct_16 inlX8 rfl (by decide) (inU_7 _ (List.mem_of_getElem? (i := 1) rfl)) (fun _ h => h) (v := .ref (ad 17 18)) rfl dX8_label_65 ?_
        refine lv_iload_n hx hb dX8_label_68 rfl (lv_at hl 1 rfl) ?_
        refine k_ild (ad := ad) (k := 17) (i := 18) Z X ct_17_18 (vp_in_nI (by first | assumption | omega) (by decide)) dX8_label_69 ?_
        refine lv_topi (fun x_69 e_69 => ?_)
        obtain rfl : x_69 = nI (Te.2 5 jt) := e_69.trans (by first | (simp only [nI_clamp (show jt < 2 ^ 31 by omega)]; done) | (simp only [nI_clamp (show jt < 2 ^ 31 by omega)]; rfl) | (simp only [nI_clamp (show jt < 2 ^ 31 by omega)]; simp [sI, sN]; done))
        refine lv_topi (fun x_69 e_69 => ?_)
        obtain rfl : x_69 = nI (T.2 5 jt) := e_69.trans (by rw [eTe 5 jt (by omega)])
        refine k_Rv X (k_runV (As := [.int (nI (T.2 5 jt))]) (rest := []) Z X (c_X8_putsNumber l E G S Te o ad (T.2 5 jt) (by omega) (by omega)) (k_cwV 1 Z.1.2.2.2.2 (inU_37 _ (List.mem_of_getElem? (i := 20) rfl)) (inU_37 _ (List.mem_of_getElem? (i := 21) rfl)) (inU_37 _ (List.mem_of_getElem? (i := 22) rfl)) (inU_1 _ (List.mem_of_getElem? (i := 5) rfl)) (inU_37 _ (List.mem_of_getElem? (i := 23) rfl)) rfl rfl (by decide +kernel) ⟨Nat.le_of_ble_eq_true rfl, Nat.le_of_ble_eq_true rfl⟩) (k_recv Z X ct_16 rfl) rfl hl.1 rfl (Nat.le_of_ble_eq_true rfl) dX8_label_70 ⟨Nat.le_of_ble_eq_true rfl, Nat.le_of_ble_eq_true rfl⟩) (fun ad1 ct1 H locs hp X => ?_)
        obtain ⟨rfl, rfl⟩ := hp
        obtain ⟨b5, b2, b1, b3, b4⟩ := wr_r (dgs 20 (T.2 5 jt)) Te
        have hlen := dgs_lenk 20 1 (T.2 5 jt) (by omega)
        obtain ⟨Tf, hTf⟩ : ∃ z, z = wr Te (dgs 20 (T.2 5 jt)) := ⟨_, rfl⟩
        rw [← hTf] at X b5 b2 b1
        have wTf : Tf.2 0 5 ≤ Te.2 0 5 + 2 := by omega
        have eTf : ∀ f j, ¬ (f = 0 ∧ j = 5) → Tf.2 f j = T.2 f j := fun f j h => (b2 f j h).trans (eTe f j h)
        have iTf : ∀ f j, f ≠ 23 → Tf.1 f j = Ta.1 f j := fun f j h => (b1 f j h).trans (iTe f j h)
        clear b5 b2 b1 b3 b4 hlen
        refine lv_aload_n hx hb dX8_label_73 rfl (lv_at hl 0 rfl) ?_
        refine lv_bipush (v := 64) hx hb dX8_label_74 (by decide) ?_
        refine k_Rv X (k_runV (As := [.int 64]) (rest := []) Z X (c_X8_puts l E G S Tf o ad 64 (by omega)) (k_cwV 1 Z.1.2.2.2.2 (inU_38 _ (List.mem_of_getElem? (i := 0) rfl)) (inU_38 _ (List.mem_of_getElem? (i := 1) rfl)) (inU_38 _ (List.mem_of_getElem? (i := 2) rfl)) (inU_1 _ (List.mem_of_getElem? (i := 5) rfl)) (inU_38 _ (List.mem_of_getElem? (i := 3) rfl)) rfl rfl (by decide +kernel) ⟨Nat.le_of_ble_eq_true rfl, Nat.le_of_ble_eq_true rfl⟩) (k_recv Z X ct_16 rfl) rfl hl.1 rfl (Nat.le_of_ble_eq_true rfl) dX8_label_76 ⟨Nat.le_of_ble_eq_true rfl, Nat.le_of_ble_eq_true rfl⟩) (fun ad1 ct1 H locs hp X => ?_)
        obtain ⟨rfl, rfl⟩ := hp
        obtain ⟨b5, b2, b1, b3, b4⟩ := wr_r [64] Tf
        obtain ⟨Tg, hTg⟩ : ∃ z, z = wr Tf [64] := ⟨_, rfl⟩
        rw [← hTg] at X b5 b2 b1
        have wTg : Tg.2 0 5 ≤ Tf.2 0 5 + 1 := Nat.le_of_eq b5
        have eTg : ∀ f j, ¬ (f = 0 ∧ j = 5) → Tg.2 f j = T.2 f j := fun f j h => (b2 f j h).trans (eTf f j h)
        have iTg : ∀ f j, f ≠ 23 → Tg.1 f j = Ta.1 f j := fun f j h => (b1 f j h).trans (iTf f j h)
        clear b5 b2 b1 b3 b4
        refine lv_aload_n hx hb dX8_label_79 rfl (lv_at hl 0 rfl) ?_
        refine lv_aload_n hx hb dX8_label_80 rfl (lv_at hl 0 rfl) ?_
        refine k_get (index := 68) (j := 24) (ad := ad) (k := 16) (i := 0) Z X ct_16 inlX8 rfl (by decide) (inU_7 _ (List.mem_of_getElem? (i := 2) rfl)) (fun _ h => h) (v := .ref (ad 17 19)) rfl dX8_label_81 ?_
        refine lv_iload_n hx hb dX8_label_84 rfl (lv_at hl 1 rfl) ?_
        refine k_ild (ad := ad) (k := 17) (i := 19) Z X ct_17_19 (vp_in_nI (by first | assumption | omega) (by decide)) dX8_label_85 ?_
        refine lv_topi (fun x_85 e_85 => ?_)
        obtain rfl : x_85 = Tg.1 13 jt := e_85.trans (by first | (simp only [nI_clamp (show jt < 2 ^ 31 by omega)]; done) | (simp only [nI_clamp (show jt < 2 ^ 31 by omega)]; rfl) | (simp only [nI_clamp (show jt < 2 ^ 31 by omega)]; simp [sI, sN]; done))
        refine lv_topi (fun x_85 e_85 => ?_)
        obtain rfl : x_85 = nI (cl (T.1 13 jt)) := e_85.trans (by rw [iTg 13 jt (by decide), a1 13 jt (by decide) (by decide)]; exact w4)
        refine k_Rv X (k_runV (As := [.int (nI (cl (T.1 13 jt)))]) (rest := []) Z X (c_X8_putsNumber l E G S Tg o ad (cl (T.1 13 jt)) (by omega) (by omega)) (k_cwV 1 Z.1.2.2.2.2 (inU_37 _ (List.mem_of_getElem? (i := 20) rfl)) (inU_37 _ (List.mem_of_getElem? (i := 21) rfl)) (inU_37 _ (List.mem_of_getElem? (i := 22) rfl)) (inU_1 _ (List.mem_of_getElem? (i := 5) rfl)) (inU_37 _ (List.mem_of_getElem? (i := 23) rfl)) rfl rfl (by decide +kernel) ⟨Nat.le_of_ble_eq_true rfl, Nat.le_of_ble_eq_true rfl⟩) (k_recv Z X ct_16 rfl) rfl hl.1 rfl (Nat.le_of_ble_eq_true rfl) dX8_label_86 ⟨Nat.le_of_ble_eq_true rfl, Nat.le_of_ble_eq_true rfl⟩) (fun ad1 ct1 H locs hp X => ?_)
        obtain ⟨rfl, rfl⟩ := hp
        obtain ⟨b5, b2, b1, b3, b4⟩ := wr_r (dgs 20 (cl (T.1 13 jt))) Tg
        have hlen := dgs_lenk 20 9 (cl (T.1 13 jt)) (by omega)
        obtain ⟨Th, hTh⟩ : ∃ z, z = wr Tg (dgs 20 (cl (T.1 13 jt))) := ⟨_, rfl⟩
        rw [← hTh] at X b5 b2 b1
        have wTh : Th.2 0 5 ≤ Tg.2 0 5 + 10 := by omega
        have eTh : ∀ f j, ¬ (f = 0 ∧ j = 5) → Th.2 f j = T.2 f j := fun f j h => (b2 f j h).trans (eTg f j h)
        have iTh : ∀ f j, f ≠ 23 → Th.1 f j = Ta.1 f j := fun f j h => (b1 f j h).trans (iTg f j h)
        clear b5 b2 b1 b3 b4 hlen
        have hall : Th = wr Ta (lab T jt) := by rw [lab, wr_app, show (46 :: (dgs 20 (T.1 20 jt).toNatClampNeg ++ 62 :: (dgs 20 (T.2 5 jt) ++ 64 :: dgs 20 (T.1 13 jt).toNatClampNeg))) = [46] ++ (dgs 20 (T.1 20 jt).toNatClampNeg ++ ([62] ++ (dgs 20 (T.2 5 jt) ++ ([64] ++ dgs 20 (T.1 13 jt).toNatClampNeg)))) from rfl, wr_app, wr_app, wr_app, wr_app, wr_app, hTh, hTg, hTf, hTe, hTd, hTc, hTb]; rfl
        obtain ⟨b5, -, -, -, b4⟩ := wr_r (lab T jt) Ta
        rw [← hall] at b5 b4
        rw [aw, Nat.zero_add] at b5
        refine lv_iload_n hx hb dX8_label_89 rfl (lv_at hl 2 rfl) ?_
        refine lv_aload_n hx hb dX8_label_90 rfl (lv_at hl 0 rfl) ?_
        refine k_get (index := 141) (j := 27) (ad := ad) (k := 16) (i := 0) Z X ct_16 inlX8 rfl (by decide) (inU_37 _ (List.mem_of_getElem? (i := 19) rfl)) (fun _ h => h) (v := .int (nI (Th.2 0 5))) rfl dX8_label_91 ?_
        refine lv_icmp_ge (tgt := 107) hx hb dX8_label_94 (by decide) (fun c_94 => ?_) (fun c_94 => ?_)
        · have c_94 : (Th.2 0 5) ≤ jp := (nI_leI (a := (Th.2 0 5)) (b := jp) (by omega) (by omega)).mp c_94
          refine lv_iconst (v := 0) hx hb dX8_label_107 (by decide) ?_
          have hk : cLabel T (nI jt) (nI jp) = 0 := by rw [cLabel, if_neg (by rw [c_6, c_10]; decide)]
          exact k_iret Z X hr hlocks rfl (Nat.le_of_ble_eq_true rfl) (Nat.le_of_ble_eq_true rfl) dX8_label_108 ⟨fun _ => by rw [rLabel, hct, hcp, List.getD_eq_getElem?_getD, List.getElem?_eq_none (by omega)]; rfl, rfl, Th, rfl, by rw [hk, iTh 24 0 (by decide)]; exact a24, fun f j h1 h2 => (iTh f j h1).trans (a1 f j h1 h2), eTh⟩
        · have c_94 : ¬ (Th.2 0 5) ≤ jp := fun h => c_94 ((nI_leI (a := (Th.2 0 5)) (b := jp) (by omega) (by omega)).mpr h)
          refine lv_aload_n hx hb dX8_label_97 rfl (lv_at hl 0 rfl) ?_
          refine k_get (index := 74) (j := 26) (ad := ad) (k := 16) (i := 0) Z X ct_16 inlX8 rfl (by decide) (inU_7 _ (List.mem_of_getElem? (i := 4) rfl)) (fun _ h => h) (v := .ref (ad 17 21)) rfl dX8_label_98 ?_
          refine lv_iload_n hx hb dX8_label_101 rfl (lv_at hl 2 rfl) ?_
          refine k_ild (ad := ad) (k := 17) (i := 21) Z X ct_17_21 (vp_in_nI (by first | assumption | omega) (by decide)) dX8_label_102 ?_
          refine lv_topi (fun x_102 e_102 => ?_)
          obtain rfl : x_102 = Th.1 23 jp := e_102.trans (by first | (simp only [nI_clamp (show jp < 2 ^ 31 by omega)]; done) | (simp only [nI_clamp (show jp < 2 ^ 31 by omega)]; rfl) | (simp only [nI_clamp (show jp < 2 ^ 31 by omega)]; simp [sI, sN]; done))
          refine lv_topi (fun x_102 e_102 => ?_)
          obtain rfl : x_102 = nI ((lab T jt).getD jp 0) := e_102.trans (by have h := b4 jp (by omega); rw [aw, Nat.zero_add] at h; exact h)
          have hch : (lab T jt).getD jp 0 < 65 := getD_lt (lab_lt T jt) (by decide) jp
          refine lv_i2c (v := nI ((lab T jt).getD jp 0)) hx hb dX8_label_103 (by rw [pk_char, pk_tn (by omega), Nat.mod_eq_of_lt (by omega)]) ?_
          refine lv_goto (tgt := 108) hx hb dX8_label_104 (by decide) ?_
          have hk : cLabel T (nI jt) (nI jp) = 0 := by rw [cLabel, if_neg (by rw [c_6, c_10]; decide)]
          exact k_iret Z X hr hlocks (pk_charN (by omega)).1 (Nat.le_of_ble_eq_true rfl) (Nat.le_of_ble_eq_true rfl) dX8_label_108 ⟨fun _ => by rw [rLabel, hct, hcp], rfl, Th, rfl, by rw [hk, iTh 24 0 (by decide)]; exact a24, fun f j h1 h2 => (iTh f j h1).trans (a1 f j h1 h2), eTh⟩
      · exact absurd c_21 (by decide)
