/-! ADDING to a list -/
theorem kmax {b c : Nat} (hb : b < 2 ^ 31) (hc : c < 2 ^ 31) : (if nI b < nI c then nI c else nI b) = nI (max b c) := by
  by_cases h : b < c
  · rw [if_pos ((nI_ltI hb hc).mpr h), Nat.max_eq_right (by omega)]
  · rw [if_neg (fun z => h ((nI_ltI hb hc).mp z)), Nat.max_eq_left (by omega)]
theorem kmin {a b : Nat} (ha : a < 2 ^ 31) (h : a ≤ b) (hb : b < 2 ^ 31) : (if nI b < nI a then nI b else nI a) = nI a := if_neg (fun z => by have := (nI_ltI hb ha).mp z; omega)
def kCut (f : Nat → Option Nat) (n : Nat) : Nat → Option Nat := fun j => if j < n then f j else none
def kUp (f : Nat → Option Nat) (n y : Nat) : Nat → Option Nat := fun j => if j < n then f j else if j = n then some y else none
theorem kUp_1 (f : Nat → Option Nat) (n y : Nat) : va_up (kCut f n) n (some y) = kUp f n y := by
  funext j
  simp only [va_up, kCut, kUp]
  by_cases h : j = n
  · subst h; rw [if_pos rfl, if_neg (Nat.lt_irrefl _), if_pos rfl]
  · rw [if_neg h, if_neg h]
theorem kUp_2 {f : Nat → Option Nat} {n : Nat} (hf : ∀ j, n ≤ j → f j = none) (y : Nat) : va_up f n (some y) = kUp f n y := by
  funext j
  simp only [va_up, kUp]
  by_cases h : j = n
  · subst h; rw [if_pos rfl, if_neg (Nat.lt_irrefl _), if_pos rfl]
  · rw [if_neg h, if_neg h]
    by_cases h2 : j < n
    · rw [if_pos h2]
    · rw [if_neg h2, hf j (by omega)]
theorem kCut_0 (f : Nat → Option Nat) : kCut f 0 = fun _ => none := rfl
theorem cup_id {ct : kCt} {k i : Nat} {e : va_E} (h : ct k i = some e) : cup ct k i e = ct := by
  funext a b
  by_cases z : a = k ∧ b = i
  · rw [z.1, z.2, cup_s, h]
  · rw [cup_n z]
theorem cup_4 {ct : kCt} {k i k' i' : Nat} {A A' B B' : va_E} : cup (cup (cup (cup ct k' i' A) k i B) k' i' A') k i B' = cup (cup ct k' i' A') k i B' := by
  rw [cup_3, cup_cup]
theorem kXz {E : State} {G : kG} {s : State} {H : Heap} {locs : List Loc} {ad ad' : kAd} {ct ct' : kCt} (X : kX E G s H locs ad ct) (h1 : ad = ad') (h2 : ct = ct') : kX E G s H locs ad' ct' := by subst h1; subst h2; exact X
theorem dJ8_newLength_cabcc_0 : decode cJ8_newLength_cabcc 0 = .ok (.iload_n 0, 1) := by decide +kernel
theorem dJ8_newLength_cabcc_1 : decode cJ8_newLength_cabcc 1 = .ok (.iload_n 1, 1) := by decide +kernel
theorem dJ8_newLength_cabcc_2 : decode cJ8_newLength_cabcc 2 = .ok (.iload_n 2, 1) := by decide +kernel
theorem dJ8_newLength_cabcc_3 : decode cJ8_newLength_cabcc 3 = .ok (.invokestatic 194, 3) := by decide +kernel
theorem dJ8_newLength_cabcc_6 : decode cJ8_newLength_cabcc 6 = .ok (.iadd, 1) := by decide +kernel
theorem dJ8_newLength_cabcc_7 : decode cJ8_newLength_cabcc 7 = .ok (.istore_n 3, 1) := by decide +kernel
theorem dJ8_newLength_cabcc_8 : decode cJ8_newLength_cabcc 8 = .ok (.iconst 0, 1) := by decide +kernel
theorem dJ8_newLength_cabcc_9 : decode cJ8_newLength_cabcc 9 = .ok (.iload_n 3, 1) := by decide +kernel
theorem dJ8_newLength_cabcc_10 : decode cJ8_newLength_cabcc 10 = .ok (.if_icmp .ge 11, 3) := by decide +kernel
theorem dJ8_newLength_cabcc_13 : decode cJ8_newLength_cabcc 13 = .ok (.iload_n 3, 1) := by decide +kernel
theorem dJ8_newLength_cabcc_14 : decode cJ8_newLength_cabcc 14 = .ok (.ldc 200, 2) := by decide +kernel
theorem dJ8_newLength_cabcc_16 : decode cJ8_newLength_cabcc 16 = .ok (.if_icmp .gt 5, 3) := by decide +kernel
theorem dJ8_newLength_cabcc_19 : decode cJ8_newLength_cabcc 19 = .ok (.iload_n 3, 1) := by decide +kernel
theorem dJ8_newLength_cabcc_20 : decode cJ8_newLength_cabcc 20 = .ok (.ireturn, 1) := by decide +kernel
theorem dJ8_newLength_cabcc_21 : decode cJ8_newLength_cabcc 21 = .ok (.iload_n 0, 1) := by decide +kernel
theorem dJ8_newLength_cabcc_22 : decode cJ8_newLength_cabcc 22 = .ok (.iload_n 1, 1) := by decide +kernel
theorem dJ8_newLength_cabcc_23 : decode cJ8_newLength_cabcc 23 = .ok (.invokestatic 201, 3) := by decide +kernel
theorem dJ8_newLength_cabcc_26 : decode cJ8_newLength_cabcc 26 = .ok (.ireturn, 1) := by decide +kernel
set_option maxHeartbeats 4000000 in
set_option maxRecDepth 100000 in
theorem c_J8_newLength_cabcc (l : Launch) (E : State) (G : kG) (ad : kAd) (ct : kCt) (a b c9 : Nat) (h0 : 0 < a) (ha : a + b + c9 ≤ 10000) : Met l yJ8_newLength_cabcc (.code yJ8_newLength_cabcc cJ8_newLength_cabcc 4 (some .int) :: wsL_law) ({ frames := 2, cells := 0, slots := 0, locals := 60 } : Room) (va_Pc [.int (nI a), .int (nI b), .int (nI c9)] (kPre E G ad ct)) (kQi E G (fun r ad1 ct1 => r = nI (a + max b c9) ∧ ad = ad1 ∧ ct1 = ct)) 0 0 (kB E.heap.size) := by
  refine Met.ofW (cc := cJ8_newLength_cabcc) (maxL := 4) (ret := (some .int)) (by decide) rfl ?_
  intro p e s m args below meth c s₁ B hml hv
  obtain ⟨rfl, hM, hK, hW0⟩ := hv
  have hlocks := B.notSynchronized
  have hr := B.returns
  have Z : kZ p m c cJ8_newLength_cabcc 4 s _ wsL_law RJ8 E G := ⟨⟨B.exec, B.bytes, hml, findClass_of_methodNamed B.named, fun w h => atoms_spec (ws := .code yJ8_newLength_cabcc cJ8_newLength_cabcc 4 (some .int) :: wsL_law) B.pre w (List.mem_cons_of_mem _ h)⟩, hM, hK⟩
  have hx := Z.1.1
  have hb := Z.1.2.1
  have X := kX.of hW0
  have hl := lv_entry ([.int (nI a), .int (nI b), .int (nI c9)]) (n := 4) (Nat.le_of_ble_eq_true rfl)
  rw [lg_entry_eq]
  generalize (lg_sl ([.int (nI a), .int (nI b), .int (nI c9)]) ++ List.replicate (4 - (lg_sl ([.int (nI a), .int (nI b), .int (nI c9)])).length) Slot.unset).toArray = ls at hl ⊢
  have hl : lv_has ls 4 [(0, .int (nI a)), (1, .int (nI b)), (2, .int (nI c9))] := hl
  have hmx : max b c9 ≤ b + c9 := Nat.max_le.mpr ⟨by omega, by omega⟩
  refine lv_iload_n hx hb dJ8_newLength_cabcc_0 rfl (lv_at hl 0 rfl) ?_
  refine lv_iload_n hx hb dJ8_newLength_cabcc_1 rfl (lv_at hl 1 rfl) ?_
  refine lv_iload_n hx hb dJ8_newLength_cabcc_2 rfl (lv_at hl 2 rfl) ?_
  refine va_mmax hx hb (Z.1.2.2.1.trans hl.1.symm) Z.1.2.2.2.1 (Z.1.2.2.2.2 _ (inU_4 _ (List.mem_of_getElem? (i := 11) rfl))) (Z.1.2.2.2.2 _ (inU_4 _ (List.mem_of_getElem? (i := 3) rfl))) (Z.1.2.2.2.2 _ (inU_4 _ (List.mem_of_getElem? (i := 4) rfl))) (Z.1.2.2.2.2 _ (inU_4 _ (List.mem_of_getElem? (i := 5) rfl))) (Nat.le_of_ble_eq_true rfl) (Nat.le_of_ble_eq_true rfl) (by show _ ≤ (_ : Nat); simp only [headSpec]; omega) (by show _ ≤ (_ : Nat); simp only [headSpec]; omega) dJ8_newLength_cabcc_3 ?_
  refine lv_topi (fun x_3 e_3 => ?_)
  obtain rfl : x_3 = nI (max b c9) := e_3.trans (kmax (by omega) (by omega))
  refine lv_iadd hx hb dJ8_newLength_cabcc_6 ?_
  refine lv_topi (fun x_6 e_6 => ?_)
  obtain rfl : x_6 = nI (a + max b c9) := e_6.trans (nI_add _ _)
  refine lv_istore_n (lv' := [(3, .int (nI (a + max b c9))), (0, .int (nI a)), (1, .int (nI b)), (2, .int (nI c9))]) hx hb dJ8_newLength_cabcc_7 rfl hl (by decide) rfl (fun ls hl => ?_)
  refine lv_iconst (v := 0) hx hb dJ8_newLength_cabcc_8 (by decide) ?_
  refine lv_iload_n hx hb dJ8_newLength_cabcc_9 rfl (lv_at hl 0 rfl) ?_
  refine lv_icmp_ge (tgt := 21) hx hb dJ8_newLength_cabcc_10 (by decide) (fun c_10 => ?_) (fun c_10 => ?_)
  · exact absurd ((nI_leI (a := a + max b c9) (b := 0) (by omega) (by omega)).mp c_10) (by omega)
  · refine lv_iload_n hx hb dJ8_newLength_cabcc_13 rfl (lv_at hl 0 rfl) ?_
    refine lv_ldc (v := 2147483639) hx hb Z.1.2.2.2.1 (Z.1.2.2.2.2 _ (inU_4 _ (List.mem_of_getElem? (i := 12) rfl))) dJ8_newLength_cabcc_14 ?_
    refine lv_icmp_gt (tgt := 21) hx hb dJ8_newLength_cabcc_16 (by decide) (fun c_16 => ?_) (fun c_16 => ?_)
    · exact absurd ((nI_ltI (a := 2147483639) (b := a + max b c9) (by omega) (by omega)).mp c_16) (by omega)
    · refine lv_iload_n hx hb dJ8_newLength_cabcc_19 rfl (lv_at hl 0 rfl) ?_
      exact k_iret Z X hr hlocks rfl (by omega) (by omega) dJ8_newLength_cabcc_20 ⟨rfl, rfl, rfl⟩
theorem dJ7_copyOf_6403c_0 : decode cJ7_copyOf_6403c 0 = .ok (.aload_n 2, 1) := by decide +kernel
theorem dJ7_copyOf_6403c_1 : decode cJ7_copyOf_6403c 1 = .ok (.ldc 110, 2) := by decide +kernel
theorem dJ7_copyOf_6403c_3 : decode cJ7_copyOf_6403c 3 = .ok (.if_acmp .ne 10, 3) := by decide +kernel
theorem dJ7_copyOf_6403c_6 : decode cJ7_copyOf_6403c 6 = .ok (.iload_n 1, 1) := by decide +kernel
theorem dJ7_copyOf_6403c_7 : decode cJ7_copyOf_6403c 7 = .ok (.anewarray 2, 3) := by decide +kernel
theorem dJ7_copyOf_6403c_10 : decode cJ7_copyOf_6403c 10 = .ok (.goto 14, 3) := by decide +kernel
theorem dJ7_copyOf_6403c_13 : decode cJ7_copyOf_6403c 13 = .ok (.aload_n 2, 1) := by decide +kernel
theorem dJ7_copyOf_6403c_14 : decode cJ7_copyOf_6403c 14 = .ok (.invokevirtual 90, 3) := by decide +kernel
theorem dJ7_copyOf_6403c_17 : decode cJ7_copyOf_6403c 17 = .ok (.iload_n 1, 1) := by decide +kernel
theorem dJ7_copyOf_6403c_18 : decode cJ7_copyOf_6403c 18 = .ok (.invokestatic 95, 3) := by decide +kernel
theorem dJ7_copyOf_6403c_21 : decode cJ7_copyOf_6403c 21 = .ok (.checkcast 110, 3) := by decide +kernel
theorem dJ7_copyOf_6403c_24 : decode cJ7_copyOf_6403c 24 = .ok (.astore_n 3, 1) := by decide +kernel
theorem dJ7_copyOf_6403c_25 : decode cJ7_copyOf_6403c 25 = .ok (.aload_n 0, 1) := by decide +kernel
theorem dJ7_copyOf_6403c_26 : decode cJ7_copyOf_6403c 26 = .ok (.iconst 0, 1) := by decide +kernel
theorem dJ7_copyOf_6403c_27 : decode cJ7_copyOf_6403c 27 = .ok (.aload_n 3, 1) := by decide +kernel
theorem dJ7_copyOf_6403c_28 : decode cJ7_copyOf_6403c 28 = .ok (.iconst 0, 1) := by decide +kernel
theorem dJ7_copyOf_6403c_29 : decode cJ7_copyOf_6403c 29 = .ok (.aload_n 0, 1) := by decide +kernel
theorem dJ7_copyOf_6403c_30 : decode cJ7_copyOf_6403c 30 = .ok (.arraylength, 1) := by decide +kernel
theorem dJ7_copyOf_6403c_31 : decode cJ7_copyOf_6403c 31 = .ok (.iload_n 1, 1) := by decide +kernel
theorem dJ7_copyOf_6403c_32 : decode cJ7_copyOf_6403c 32 = .ok (.invokestatic 304, 3) := by decide +kernel
theorem dJ7_copyOf_6403c_35 : decode cJ7_copyOf_6403c 35 = .ok (.invokestatic 150, 3) := by decide +kernel
theorem dJ7_copyOf_6403c_38 : decode cJ7_copyOf_6403c 38 = .ok (.aload_n 3, 1) := by decide +kernel
theorem dJ7_copyOf_6403c_39 : decode cJ7_copyOf_6403c 39 = .ok (.areturn, 1) := by decide +kernel
set_option maxHeartbeats 4000000 in
set_option maxRecDepth 100000 in
theorem c_J7_copyOf_6403c (l : Launch) (E : State) (G : kG) (ad : kAd) (ct : kCt) (hE : kE l E G) (k0 i0 n0 q mi : Nat) (kk ci : Nat) (f : Nat → Option Nat) (r : vw_C) (hcl : vwCl[ci]? = some r) (hcb : Cond.castable r.1 "java/lang/Object" ∈ kBW) (h0 : ct k0 i0 = some (kOa G n0 f)) (hk0 : k0 ≠ 98) (hkk : kk ≠ 98) (hel : kEl ad ct kk ci f) (hq : n0 ≤ q) (hq2 : q ≤ 120) (hmi : va_Mi "[Ljava/lang/Object;" mi E) : Met l yJ7_copyOf_6403c (.code yJ7_copyOf_6403c cJ7_copyOf_6403c 4 (some (.array (.object "java/lang/Object"))) :: wsL_law) ({ frames := 2, cells := 1, slots := 120, locals := 120 } : Room) (va_Pc [.ref (ad k0 i0), .int (nI q), .ref mi] (kPre E G ad ct)) (kQq E G (fun r ad1 ct1 => ∃ z : Nat, r = some z ∧ ad1 = aup ad 98 0 z ∧ ct1 = cup ct 98 0 (kOa G q (kCut f n0)))) 1 120 (kB E.heap.size) := by
  refine Met.ofW (cc := cJ7_copyOf_6403c) (maxL := 4) (ret := (some (.array (.object "java/lang/Object")))) (by decide) rfl ?_
  intro p e s m args below meth c s₁ B hml hv
  obtain ⟨rfl, hM, hK, hW0⟩ := hv
  have hlocks := B.notSynchronized
  have hr := B.returns
  have Z : kZ p m c cJ7_copyOf_6403c 4 s _ wsL_law RJ7 E G := ⟨⟨B.exec, B.bytes, hml, findClass_of_methodNamed B.named, fun w h => atoms_spec (ws := .code yJ7_copyOf_6403c cJ7_copyOf_6403c 4 (some (.array (.object "java/lang/Object"))) :: wsL_law) B.pre w (List.mem_cons_of_mem _ h)⟩, hM, hK⟩
  have hx := Z.1.1
  have hb := Z.1.2.1
  have X := kX.of hW0
  have hl := lv_entry ([.ref (ad k0 i0), .int (nI q), .ref mi]) (n := 4) (Nat.le_of_ble_eq_true rfl)
  rw [lg_entry_eq]
  generalize (lg_sl ([.ref (ad k0 i0), .int (nI q), .ref mi]) ++ List.replicate (4 - (lg_sl ([.ref (ad k0 i0), .int (nI q), .ref mi])).length) Slot.unset).toArray = ls at hl ⊢
  have hl : lv_has ls 4 [(0, .ref (ad k0 i0)), (1, .int (nI q)), (2, .ref mi)] := hl
  refine lv_aload_n hx hb dJ7_copyOf_6403c_0 rfl (lv_at hl 2 rfl) ?_
  refine va_ldcM hx hb Z.1.2.2.2.1 (Z.1.2.2.2.2 _ (inU_5 _ (List.mem_of_getElem? (i := 3) rfl))) (hmi.moved Z.2.1.1.alike) dJ7_copyOf_6403c_1 ?_
  refine lv_acmp_ne (rx := some mi) (ry := some mi) (tgt := 13) hx hb dJ7_copyOf_6403c_3 (by decide) (fun h => absurd rfl h) (fun _ => ?_)
  refine lv_iload_n hx hb dJ7_copyOf_6403c_6 rfl (lv_at hl 1 rfl) ?_
  refine k_newq 98 0 (N' := q) Z X (inU_5 _ (List.mem_of_getElem? (i := 4) rfl)) (hE.2.2.2.2.2.2.2.2.1.moved Z.2.1.1.alike) (nI_pos (by omega)) (nI_clamp (by omega)) (by omega) (by show _ ≤ (_ : Nat); simp only [headSpec]; omega) (by show _ ≤ (_ : Nat); simp only [headSpec]; omega) dJ7_copyOf_6403c_7 (fun z H X => ?_)
  obtain ⟨adN, hadN⟩ : ∃ y, y = aup ad 98 0 z := ⟨_, rfl⟩
  obtain ⟨ctN, hctN⟩ : ∃ y, y = cup ct 98 0 (kOa G q (fun _ => none)) := ⟨_, rfl⟩
  rw [← hadN, ← hctN] at X
  have eN : adN 98 0 = z := by rw [hadN]; exact aup_s
  subst eN
  have hN : ctN 98 0 = some (kOa G q (fun _ => none)) := by rw [hctN]; exact cup_s
  have e0 : adN k0 i0 = ad k0 i0 := by rw [hadN]; exact aup_n (fun z => hk0 z.1)
  rw [← e0] at hl
  have h0 : ctN k0 i0 = some (kOa G n0 f) := by rw [hctN]; exact (cup_n (fun z => hk0 z.1)).trans h0
  have hel : kEl adN ctN kk ci f := by rw [hadN, hctN]; exact (hel.c hkk).a hkk
  refine lv_goto (tgt := 24) hx hb dJ7_copyOf_6403c_10 (by decide) ?_
  refine lv_astore_n (lv' := [(3, .ref (adN 98 0)), (0, .ref (adN k0 i0)), (1, .int (nI q)), (2, .ref mi)]) hx hb dJ7_copyOf_6403c_24 rfl hl (by decide) rfl (fun ls hl => ?_)
  refine lv_aload_n hx hb dJ7_copyOf_6403c_25 rfl (lv_at hl 1 rfl) ?_
  refine lv_iconst (v := 0) hx hb dJ7_copyOf_6403c_26 (by decide) ?_
  refine lv_aload_n hx hb dJ7_copyOf_6403c_27 rfl (lv_at hl 0 rfl) ?_
  refine lv_iconst (v := 0) hx hb dJ7_copyOf_6403c_28 (by decide) ?_
  refine lv_aload_n hx hb dJ7_copyOf_6403c_29 rfl (lv_at hl 1 rfl) ?_
  refine k_len (ad := adN) (k := k0) (i := i0) (t0 := 3) (v := nI n0) Z X h0 rfl rfl dJ7_copyOf_6403c_30 ?_
  refine lv_iload_n hx hb dJ7_copyOf_6403c_31 rfl (lv_at hl 2 rfl) ?_
  refine va_mmin hx hb (Z.1.2.2.1.trans hl.1.symm) Z.1.2.2.2.1 (Z.1.2.2.2.2 _ (inU_5 _ (List.mem_of_getElem? (i := 5) rfl))) (Z.1.2.2.2.2 _ (inU_5 _ (List.mem_of_getElem? (i := 6) rfl))) (Z.1.2.2.2.2 _ (inU_4 _ (List.mem_of_getElem? (i := 4) rfl))) (Z.1.2.2.2.2 _ (inU_5 _ (List.mem_of_getElem? (i := 7) rfl))) (Nat.le_of_ble_eq_true rfl) (Nat.le_of_ble_eq_true rfl) (by show _ ≤ (_ : Nat); simp only [headSpec]; omega) (by show _ ≤ (_ : Nat); simp only [headSpec]; omega) dJ7_copyOf_6403c_32 ?_
  refine lv_topi (fun x_32 e_32 => ?_)
  obtain rfl : x_32 = nI n0 := e_32.trans (kmin (by omega) hq (by omega))
  refine k_copyq (C := r.1) Z X (inU_5 _ (List.mem_of_getElem? (i := 8) rfl)) (inU_5 _ (List.mem_of_getElem? (i := 9) rfl)) (inU_5 _ (List.mem_of_getElem? (i := 10) rfl)) (inU_5 _ (List.mem_of_getElem? (i := 11) rfl)) hl.1 h0 hN (by omega) (Nat.le_refl _) hq (fun j _ y hy => by obtain ⟨i, vs, g1, g2⟩ := hel j y hy; rw [g1]; exact k_recv Z X g2 hcl) (hE.word Z.2.1 hcb) (Nat.le_of_ble_eq_true rfl) ⟨(Nat.le_of_ble_eq_true rfl), (Nat.le_of_ble_eq_true rfl)⟩ dJ7_copyOf_6403c_35 (fun H locs X => ?_)
  refine lv_aload_n hx hb dJ7_copyOf_6403c_38 rfl (lv_at hl 0 rfl) ?_
  exact k_aret (some (adN 98 0)) Z X hr hlocks (Or.inr ⟨_, rfl⟩) (by omega) (by omega) dJ7_copyOf_6403c_39 ⟨_, rfl, hadN, by rw [hctN, cup_cup, cpy_f]; rfl⟩
theorem dJ7_copyOf_1904c_0 : decode cJ7_copyOf_1904c 0 = .ok (.aload_n 0, 1) := by decide +kernel
theorem dJ7_copyOf_1904c_1 : decode cJ7_copyOf_1904c 1 = .ok (.iload_n 1, 1) := by decide +kernel
theorem dJ7_copyOf_1904c_2 : decode cJ7_copyOf_1904c 2 = .ok (.aload_n 0, 1) := by decide +kernel
theorem dJ7_copyOf_1904c_3 : decode cJ7_copyOf_1904c 3 = .ok (.invokevirtual 86, 3) := by decide +kernel
theorem dJ7_copyOf_1904c_6 : decode cJ7_copyOf_1904c 6 = .ok (.invokestatic 300, 3) := by decide +kernel
theorem dJ7_copyOf_1904c_9 : decode cJ7_copyOf_1904c 9 = .ok (.areturn, 1) := by decide +kernel
set_option maxHeartbeats 4000000 in
set_option maxRecDepth 100000 in
theorem c_J7_copyOf_1904c (l : Launch) (E : State) (G : kG) (ad : kAd) (ct : kCt) (hE : kE l E G) (k0 i0 n0 q mi : Nat) (kk ci : Nat) (f : Nat → Option Nat) (r : vw_C) (hcl : vwCl[ci]? = some r) (hcb : Cond.castable r.1 "java/lang/Object" ∈ kBW) (h0 : ct k0 i0 = some (kOa G n0 f)) (hk0 : k0 ≠ 98) (hkk : kk ≠ 98) (hel : kEl ad ct kk ci f) (hq : n0 ≤ q) (hq2 : q ≤ 120) (hmi : va_Mi "[Ljava/lang/Object;" mi E) : Met l yJ7_copyOf_1904c (.code yJ7_copyOf_1904c cJ7_copyOf_1904c 2 (some (.array (.object "java/lang/Object"))) :: wsL_law) ({ frames := 3, cells := 1, slots := 120, locals := 150 } : Room) (va_Pc [.ref (ad k0 i0), .int (nI q)] (kPre E G ad ct)) (kQq E G (fun r ad1 ct1 => ∃ z : Nat, r = some z ∧ ad1 = aup ad 98 0 z ∧ ct1 = cup ct 98 0 (kOa G q (kCut f n0)))) 1 120 (kB E.heap.size) := by
  refine Met.ofW (cc := cJ7_copyOf_1904c) (maxL := 2) (ret := (some (.array (.object "java/lang/Object")))) (by decide) rfl ?_
  intro p e s m args below meth c s₁ B hml hv
  obtain ⟨rfl, hM, hK, hW0⟩ := hv
  have hlocks := B.notSynchronized
  have hr := B.returns
  have Z : kZ p m c cJ7_copyOf_1904c 2 s _ wsL_law RJ7 E G := ⟨⟨B.exec, B.bytes, hml, findClass_of_methodNamed B.named, fun w h => atoms_spec (ws := .code yJ7_copyOf_1904c cJ7_copyOf_1904c 2 (some (.array (.object "java/lang/Object"))) :: wsL_law) B.pre w (List.mem_cons_of_mem _ h)⟩, hM, hK⟩
  have hx := Z.1.1
  have hb := Z.1.2.1
  have X := kX.of hW0
  have hl := lv_entry ([.ref (ad k0 i0), .int (nI q)]) (n := 2) (Nat.le_of_ble_eq_true rfl)
  rw [lg_entry_eq]
  generalize (lg_sl ([.ref (ad k0 i0), .int (nI q)]) ++ List.replicate (2 - (lg_sl ([.ref (ad k0 i0), .int (nI q)])).length) Slot.unset).toArray = ls at hl ⊢
  have hl : lv_has ls 2 [(0, .ref (ad k0 i0)), (1, .int (nI q))] := hl
  refine lv_aload_n hx hb dJ7_copyOf_1904c_0 rfl (lv_at hl 0 rfl) ?_
  refine lv_iload_n hx hb dJ7_copyOf_1904c_1 rfl (lv_at hl 1 rfl) ?_
  refine lv_aload_n hx hb dJ7_copyOf_1904c_2 rfl (lv_at hl 0 rfl) ?_
  refine va_getC hx hb (Z.1.2.2.1.trans hl.1.symm) Z.1.2.2.2.1 (Z.1.2.2.2.2 _ (inU_4 _ (List.mem_of_getElem? (i := 20) rfl))) (hE.word Z.2.1 (List.mem_of_getElem? (i := 6) rfl)) (Z.1.2.2.2.2 _ (inU_4 _ (List.mem_of_getElem? (i := 21) rfl))) (Z.1.2.2.2.2 _ (inU_4 _ (List.mem_of_getElem? (i := 22) rfl))) (Z.1.2.2.2.2 _ (inU_4 _ (List.mem_of_getElem? (i := 23) rfl))) (hmi.moved Z.2.1.1.alike) ⟨_, (X.1.2.1 k0 i0 _ h0).1, rfl, ?_⟩ (Nat.le_of_ble_eq_true rfl) (Nat.le_of_ble_eq_true rfl) dJ7_copyOf_1904c_3 ?_
  · exact (Z.2.2.2 3 _ rfl).2.choose_spec.choose_spec.2.2.2
  refine k_Rq X (k_runS (As := [.ref (ad k0 i0), .int (nI q), .ref mi]) (rest := []) Z X (c_J7_copyOf_6403c l E G ad ct hE k0 i0 n0 q mi kk ci f r hcl hcb h0 hk0 hkk hel hq hq2 hmi) (k_cwS 3 Z.1.2.2.2.2 (inU_5 _ (List.mem_of_getElem? (i := 0) rfl)) (inU_5 _ (List.mem_of_getElem? (i := 1) rfl)) (inU_4 _ (List.mem_of_getElem? (i := 18) rfl)) (inU_5 _ (List.mem_of_getElem? (i := 2) rfl)) rfl rfl (by decide +kernel) ⟨Nat.le_of_ble_eq_true rfl, Nat.le_of_ble_eq_true rfl⟩) rfl hl.1 rfl (Nat.le_of_ble_eq_true rfl) dJ7_copyOf_1904c_6 ⟨(by first | exact Nat.le_of_ble_eq_true rfl | (show _ ≤ (_ : Nat); simp only [headSpec]; omega)), (by first | exact Nat.le_of_ble_eq_true rfl | (show _ ≤ (_ : Nat); simp only [headSpec]; omega))⟩) (fun r_6 ad1 ct1 H locs hp X => ?_)
  obtain ⟨z, rfl, hp1, hp2⟩ := hp
  exact k_aret (some z) Z X hr hlocks (Or.inr ⟨_, rfl⟩) (by omega) (by omega) dJ7_copyOf_1904c_9 ⟨z, rfl, hp1, hp2⟩
