/-! THE LAW'S METHODS: part, isGone, counted, isApproved -/
def aln (a : Nat) : Nat := match a with
  | 0 => 16
  | 5 => 16
  | 8 => 31
  | 10 => 6
  | _ => 30
theorem marr_a {G : kG} {T : kSt} : ∀ a, a < 11 → marr G T a = some (.inl (G.2.2.1, aln a, .inl (T.1 (a + 1)))) := by
  intro a ha
  match a, ha with
  | 0, _ => rfl
  | 1, _ => rfl
  | 2, _ => rfl
  | 3, _ => rfl
  | 4, _ => rfl
  | 5, _ => rfl
  | 6, _ => rfl
  | 7, _ => rfl
  | 8, _ => rfl
  | 9, _ => rfl
  | 10, _ => rfl
theorem st_17 {G : kG} {S T : kSt} {o : Int64} {ad : kAd} {a : Nat} (ha : a < 11) (i : Nat) (v : Int32) (h : i < 2 ^ 31) : cup (cto G S T o ad) 17 a (.inl (G.2.2.1, aln a, .inl (upd (T.1 (a + 1)) (nI i).toNatClampNeg v))) = cto G S (sI T (a + 1) i v) o ad := by
  rw [nI_clamp h]
  funext k j
  by_cases hk : k = 17
  · subst hk
    show cup (cto G S T o ad) 17 a _ 17 j = marr G (sI T (a + 1) i v) j
    by_cases hj : j = a
    · subst hj
      rw [cup_s, marr_a j ha]
      refine congrArg some (congrArg Sum.inl ?_)
      refine congrArg (fun z => (G.2.2.1, aln j, Sum.inl z)) ?_
      funext q
      by_cases hq : q = i <;> simp [upd, sI, hq]
    · rw [cup_n (fun z => hj z.2)]
      show marr G T j = marr G (sI T (a + 1) i v) j
      by_cases hj2 : j < 11
      · rw [marr_a j hj2, marr_a j hj2]
        have e : (sI T (a + 1) i v).1 (j + 1) = T.1 (j + 1) := by
          funext q
          exact sI_f (by omega)
        rw [e]
      · match j, hj2 with
        | n + 11, _ => rfl
  · rw [cup_n (fun z => hk z.1)]
    match k, hk with
    | 0, _ => rfl
    | 1, _ => rfl
    | 2, _ => rfl
    | 3, _ => rfl
    | 4, _ => rfl
    | 5, _ => rfl
    | 6, _ => rfl
    | 7, _ => rfl
    | 8, _ => rfl
    | 9, _ => rfl
    | 10, _ => rfl
    | 11, _ => rfl
    | 12, _ => rfl
    | 13, _ => rfl
    | 14, _ => rfl
    | 15, _ => rfl
    | 16, _ => rfl
    | 17, h => exact absurd rfl h
    | k + 18, _ =>
      match k with
      | 0 => rfl
      | _ + 1 => rfl
theorem LT.go1 {M A : kSt} (h : LT M A) {j : Nat} (hj : j < M.2 0 0) (c : M.1 2 j < 0) : gone M j = false := by
  rcases (h.2.2.1 j hj).2.2.2 with e | e
  · rw [gone, e]; rfl
  · exact absurd c (Int32.not_lt.mpr e)
theorem LT.go2 {M : kSt} {j : Nat} (c : M.1 0 0 < M.1 2 j) : gone M j = false := by rw [gone, decide_eq_false (p := ¬ M.1 0 0 < M.1 2 j) (fun z => z c), Bool.and_false]
theorem LT.go3 {M : kSt} {j : Nat} (c : ¬ M.1 2 j < 0) (d : ¬ M.1 0 0 < M.1 2 j) : gone M j = true := by
  simp only [gone, Bool.and_eq_true, decide_eq_true_eq]
  exact ⟨fun e => c (by rw [e]; decide), d⟩
theorem n_mod4 {K P x : Nat} (h : K / P % 8 = x) : K / P % 4 = x % 4 := by omega
theorem n_bI (n : Nat) (b : Bool) : nI n + bI b = nI (n + (if b = true then 1 else 0)) := by cases b <;> simp [bI, nI_1]
/-- marks that say NO and count: their number -/
def noN (S : kSt) (kd : Nat → Int32) : Nat → Nat
  | 0 => 0
  | n + 1 => noN S kd n + (if (cnts S kd n && decide (kd n = 1)) = true then 1 else 0)
theorem noN_bar (S : kSt) (kd : Nat → Int32) : ∀ n, noN S kd n = 0 ↔ bar S kd n = false
  | 0 => by simp [noN, bar]
  | n + 1 => by
    have := noN_bar S kd n
    simp only [noN, bar]
    cases h : (cnts S kd n && decide (kd n = 1)) with
    | false => simp [this]
    | true => simp
theorem noN_le (S : kSt) (kd : Nat → Int32) : ∀ n, noN S kd n ≤ n
  | 0 => Nat.le_refl _
  | n + 1 => by have := noN_le S kd n; simp only [noN]; split <;> omega
theorem LT.rk {M A : kSt} (h : LT M A) {i : Nat} (hi : i < M.2 0 0) : M.1 1 i ≤ 0 ↔ M.1 1 i = 0 := by
  obtain ⟨r, h1, h2⟩ := (h.2.2.1 i hi).2.2.1
  rw [h2]
  exact (nI_leI (a := r) (b := 0) (by omega) (by decide)).trans ((by omega : r ≤ 0 ↔ r = 0).trans (nI_eq (a := r) (b := 0) (by omega) (by decide)).symm)
theorem dL_part_0 : decode cL_part 0 = .ok (.iload_n 1, 1) := by decide +kernel
theorem dL_part_1 : decode cL_part 1 = .ok (.aload_n 0, 1) := by decide +kernel
theorem dL_part_2 : decode cL_part 2 = .ok (.arraylength, 1) := by decide +kernel
theorem dL_part_3 : decode cL_part 3 = .ok (.if_icmp .ge 9, 3) := by decide +kernel
theorem dL_part_6 : decode cL_part 6 = .ok (.aload_n 0, 1) := by decide +kernel
theorem dL_part_7 : decode cL_part 7 = .ok (.iload_n 1, 1) := by decide +kernel
theorem dL_part_8 : decode cL_part 8 = .ok (.iaload, 1) := by decide +kernel
theorem dL_part_9 : decode cL_part 9 = .ok (.goto 16, 3) := by decide +kernel
theorem dL_part_12 : decode cL_part 12 = .ok (.sipush 941, 3) := by decide +kernel
theorem dL_part_15 : decode cL_part 15 = .ok (.iload_n 1, 1) := by decide +kernel
theorem dL_part_16 : decode cL_part 16 = .ok (.imul, 1) := by decide +kernel
theorem dL_part_17 : decode cL_part 17 = .ok (.sipush 811, 3) := by decide +kernel
theorem dL_part_20 : decode cL_part 20 = .ok (.iload_n 1, 1) := by decide +kernel
theorem dL_part_21 : decode cL_part 21 = .ok (.imul, 1) := by decide +kernel
theorem dL_part_22 : decode cL_part 22 = .ok (.iload_n 1, 1) := by decide +kernel
theorem dL_part_23 : decode cL_part 23 = .ok (.imul, 1) := by decide +kernel
theorem dL_part_24 : decode cL_part 24 = .ok (.iadd, 1) := by decide +kernel
theorem dL_part_25 : decode cL_part 25 = .ok (.istore_n 3, 1) := by decide +kernel
theorem dL_part_26 : decode cL_part 26 = .ok (.iload_n 3, 1) := by decide +kernel
theorem dL_part_27 : decode cL_part 27 = .ok (.ldc 7, 2) := by decide +kernel
theorem dL_part_29 : decode cL_part 29 = .ok (.iand, 1) := by decide +kernel
theorem dL_part_30 : decode cL_part 30 = .ok (.iload_n 2, 1) := by decide +kernel
theorem dL_part_31 : decode cL_part 31 = .ok (.irem, 1) := by decide +kernel
theorem dL_part_32 : decode cL_part 32 = .ok (.ireturn, 1) := by decide +kernel
set_option maxHeartbeats 4000000 in
set_option maxRecDepth 100000 in
theorem c_L_part (l : Launch) (E : State) (G : kG) (S T : kSt) (o : Int64) (ad : kAd) (b L k n : Nat) (xs : Nat → Int32) (hX0 : va_X b L xs E E.heap) (hbl0 : b < E.heap.size) (hL : L < 2 ^ 31) (hk : k < 2 ^ 31) (hn : 0 < n ∧ n < 2 ^ 31) : Met l yL_part (.code yL_part cL_part 4 (some .int) :: wsL_law) ({ frames := 1, cells := 0, slots := 0, locals := 20 } : Room) (va_Pc [.ref b, .int (nI k), .int (nI n)] (kPre E G ad (cto G S T o ad))) (kQi E G (fun r ad1 ct1 => (∃ q, q < n ∧ r = nI q) ∧ ad = ad1 ∧ ct1 = cto G S T o ad)) 0 0 (kB E.heap.size) := by
  refine Met.ofW (cc := cL_part) (maxL := 4) (ret := (some .int)) (by decide) rfl ?_
  intro p e s m args below meth c s₁ B hml hv
  obtain ⟨rfl, hM, hK, hW0⟩ := hv
  have hlocks := B.notSynchronized
  have hr := B.returns
  have Z : kZ p m c cL_part 4 s _ wsL_law RL E G := ⟨⟨B.exec, B.bytes, hml, findClass_of_methodNamed B.named, fun w h => atoms_spec (ws := .code yL_part cL_part 4 (some .int) :: wsL_law) B.pre w (List.mem_cons_of_mem _ h)⟩, hM, hK⟩
  have hx := Z.1.1
  have hb := Z.1.2.1
  have X := kX.of hW0
  have hl := lv_entry ([.ref b, .int (nI k), .int (nI n)]) (n := 4) (Nat.le_of_ble_eq_true rfl)
  rw [lg_entry_eq]
  generalize (lg_sl ([.ref b, .int (nI k), .int (nI n)]) ++ List.replicate (4 - (lg_sl ([.ref b, .int (nI k), .int (nI n)])).length) Slot.unset).toArray = ls at hl ⊢
  have hl : lv_has ls 4 [(0, .ref b), (1, .int (nI k)), (2, .int (nI n))] := hl
  have hX : va_X b L xs s s.heap := (hX0.moved hM.1.alike).kept (hM.2.2 b hbl0)
  have hbl : b < s.heap.size := Nat.lt_of_lt_of_le hbl0 hM.2.1
  refine lv_iload_n hx hb dL_part_0 rfl (lv_at hl 1 rfl) ?_
  refine lv_aload_n hx hb dL_part_1 rfl (lv_at hl 0 rfl) ?_
  refine va_slen hx hb hX hbl (Nat.not_le.mpr hbl0) X.2 dL_part_2 ?_
  refine lv_icmp_ge (tgt := 12) hx hb dL_part_3 (by decide) (fun c_3 => ?_) (fun c_3 => ?_)
  · refine lv_sipush (v := 941) hx hb dL_part_12 (by decide) ?_
    refine lv_iload_n hx hb dL_part_15 rfl (lv_at hl 1 rfl) ?_
    refine lv_imul hx hb dL_part_16 ?_
    refine lv_topi (fun x_16 e_16 => ?_)
    obtain rfl : x_16 = nI (941 * k) := e_16.trans (pk_mul 941 k)
    refine lv_sipush (v := 811) hx hb dL_part_17 (by decide) ?_
    refine lv_iload_n hx hb dL_part_20 rfl (lv_at hl 1 rfl) ?_
    refine lv_imul hx hb dL_part_21 ?_
    refine lv_topi (fun x_21 e_21 => ?_)
    obtain rfl : x_21 = nI (811 * k) := e_21.trans (pk_mul 811 k)
    refine lv_iload_n hx hb dL_part_22 rfl (lv_at hl 1 rfl) ?_
    refine lv_imul hx hb dL_part_23 ?_
    refine lv_topi (fun x_23 e_23 => ?_)
    obtain rfl : x_23 = nI ((811 * k) * k) := e_23.trans (pk_mul (811 * k) k)
    refine lv_iadd hx hb dL_part_24 ?_
    refine lv_topi (fun x_24 e_24 => ?_)
    obtain rfl : x_24 = nI ((941 * k) + ((811 * k) * k)) := e_24.trans (nI_add (941 * k) ((811 * k) * k))
    refine lv_topi (fun x_9 e_9 => ?_)
    clear e_9
    refine lv_istore_n (lv' := [(3, .int x_9), (0, .ref b), (1, .int (nI k)), (2, .int (nI n))]) hx hb dL_part_25 rfl hl (by decide) rfl (fun ls hl => ?_)
    refine lv_iload_n hx hb dL_part_26 rfl (lv_at hl 0 rfl) ?_
    refine lv_ldc (v := 2147483647) hx hb Z.1.2.2.2.1 (Z.1.2.2.2.2 _ (inU_27 _ (List.mem_of_getElem? (i := 5) rfl))) dL_part_27 ?_
    refine lv_iand hx hb dL_part_29 ?_
    refine lv_topi (fun x_29 e_29 => ?_)
    obtain ⟨z, hz, rfl⟩ : ∃ z, z < 2 ^ 31 ∧ x_29 = nI z := by rw [e_29]; exact pk_andE _ 31 rfl
    refine lv_iload_n hx hb dL_part_30 rfl (lv_at hl 3 rfl) ?_
    refine lv_irem hx hb dL_part_31 (nI_ne0 hn.1 hn.2) ?_
    refine lv_topi (fun x_31 e_31 => ?_)
    obtain rfl : x_31 = nI (z % n) := e_31.trans (pk_rem hz hn.1 hn.2)
    exact k_iret Z X hr hlocks rfl (by omega) (by omega) dL_part_32 ⟨⟨z % n, Nat.mod_lt _ hn.1, rfl⟩, rfl, rfl⟩
  · have c_3 : k < L := Nat.lt_of_not_le (fun z => c_3 ((nI_leI hL hk).mpr z))
    refine lv_aload_n hx hb dL_part_6 rfl (lv_at hl 0 rfl) ?_
    refine lv_iload_n hx hb dL_part_7 rfl (lv_at hl 1 rfl) ?_
    refine va_sld hx hb hX hbl (Nat.not_le.mpr hbl0) X.2 (vp_in_nI c_3 hL) dL_part_8 ?_
    refine lv_topi (fun x_8 e_8 => ?_)
    clear e_8
    refine lv_goto (tgt := 25) hx hb dL_part_9 (by decide) ?_
    refine lv_istore_n (lv' := [(3, .int x_8), (0, .ref b), (1, .int (nI k)), (2, .int (nI n))]) hx hb dL_part_25 rfl hl (by decide) rfl (fun ls hl => ?_)
    refine lv_iload_n hx hb dL_part_26 rfl (lv_at hl 0 rfl) ?_
    refine lv_ldc (v := 2147483647) hx hb Z.1.2.2.2.1 (Z.1.2.2.2.2 _ (inU_27 _ (List.mem_of_getElem? (i := 5) rfl))) dL_part_27 ?_
    refine lv_iand hx hb dL_part_29 ?_
    refine lv_topi (fun x_29 e_29 => ?_)
    obtain ⟨z, hz, rfl⟩ : ∃ z, z < 2 ^ 31 ∧ x_29 = nI z := by rw [e_29]; exact pk_andE _ 31 rfl
    refine lv_iload_n hx hb dL_part_30 rfl (lv_at hl 3 rfl) ?_
    refine lv_irem hx hb dL_part_31 (nI_ne0 hn.1 hn.2) ?_
    refine lv_topi (fun x_31 e_31 => ?_)
    obtain rfl : x_31 = nI (z % n) := e_31.trans (pk_rem hz hn.1 hn.2)
    exact k_iret Z X hr hlocks rfl (by omega) (by omega) dL_part_32 ⟨⟨z % n, Nat.mod_lt _ hn.1, rfl⟩, rfl, rfl⟩
theorem dL_isGone_0 : decode cL_isGone 0 = .ok (.aload_n 0, 1) := by decide +kernel
theorem dL_isGone_1 : decode cL_isGone 1 = .ok (.bipush 8, 2) := by decide +kernel
theorem dL_isGone_3 : decode cL_isGone 3 = .ok (.iload_n 2, 1) := by decide +kernel
theorem dL_isGone_4 : decode cL_isGone 4 = .ok (.iadd, 1) := by decide +kernel
theorem dL_isGone_5 : decode cL_isGone 5 = .ok (.iaload, 1) := by decide +kernel
theorem dL_isGone_6 : decode cL_isGone 6 = .ok (.ifCond .lt 19, 3) := by decide +kernel
theorem dL_isGone_9 : decode cL_isGone 9 = .ok (.aload_n 0, 1) := by decide +kernel
theorem dL_isGone_10 : decode cL_isGone 10 = .ok (.bipush 8, 2) := by decide +kernel
theorem dL_isGone_12 : decode cL_isGone 12 = .ok (.iload_n 2, 1) := by decide +kernel
theorem dL_isGone_13 : decode cL_isGone 13 = .ok (.iadd, 1) := by decide +kernel
theorem dL_isGone_14 : decode cL_isGone 14 = .ok (.iaload, 1) := by decide +kernel
theorem dL_isGone_15 : decode cL_isGone 15 = .ok (.aload_n 1, 1) := by decide +kernel
theorem dL_isGone_16 : decode cL_isGone 16 = .ok (.iconst 0, 1) := by decide +kernel
theorem dL_isGone_17 : decode cL_isGone 17 = .ok (.iaload, 1) := by decide +kernel
theorem dL_isGone_18 : decode cL_isGone 18 = .ok (.if_icmp .gt 7, 3) := by decide +kernel
theorem dL_isGone_21 : decode cL_isGone 21 = .ok (.iconst 1, 1) := by decide +kernel
theorem dL_isGone_22 : decode cL_isGone 22 = .ok (.goto 4, 3) := by decide +kernel
theorem dL_isGone_25 : decode cL_isGone 25 = .ok (.iconst 0, 1) := by decide +kernel
theorem dL_isGone_26 : decode cL_isGone 26 = .ok (.ireturn, 1) := by decide +kernel
set_option maxHeartbeats 4000000 in
set_option maxRecDepth 100000 in
theorem c_L_isGone (l : Launch) (E : State) (G : kG) (S T : kSt) (o : Int64) (ad : kAd) (M : kSt) (hT : LT M T) (j : Nat) (hj : j < M.2 0 0) : Met l yL_isGone (.code yL_isGone cL_isGone 3 (some .boolean) :: wsL_law) ({ frames := 1, cells := 0, slots := 0, locals := 20 } : Room) (va_Pc [.ref (ad 17 0), .ref (ad 17 10), .int (nI j)] (kPre E G ad (cto G S T o ad))) (kQi E G (fun r ad1 ct1 => r = bI (gone M j) ∧ ad = ad1 ∧ ct1 = cto G S T o ad)) 0 0 (kB E.heap.size) := by
  refine Met.ofW (cc := cL_isGone) (maxL := 3) (ret := (some .boolean)) (by decide) rfl ?_
  intro p e s m args below meth c s₁ B hml hv
  obtain ⟨rfl, hM, hK, hW0⟩ := hv
  have hlocks := B.notSynchronized
  have hr := B.returns
  have Z : kZ p m c cL_isGone 3 s _ wsL_law RL E G := ⟨⟨B.exec, B.bytes, hml, findClass_of_methodNamed B.named, fun w h => atoms_spec (ws := .code yL_isGone cL_isGone 3 (some .boolean) :: wsL_law) B.pre w (List.mem_cons_of_mem _ h)⟩, hM, hK⟩
  have hx := Z.1.1
  have hb := Z.1.2.1
  have X := kX.of hW0
  have hl := lv_entry ([.ref (ad 17 0), .ref (ad 17 10), .int (nI j)]) (n := 3) (Nat.le_of_ble_eq_true rfl)
  rw [lg_entry_eq]
  generalize (lg_sl ([.ref (ad 17 0), .ref (ad 17 10), .int (nI j)]) ++ List.replicate (3 - (lg_sl ([.ref (ad 17 0), .ref (ad 17 10), .int (nI j)])).length) Slot.unset).toArray = ls at hl ⊢
  have hl : lv_has ls 3 [(0, .ref (ad 17 0)), (1, .ref (ad 17 10)), (2, .int (nI j))] := hl
  obtain ⟨hc0, hc1, hc2, hc3⟩ := hT.c
  have M_26 : ∀ (H : Heap) (locs : List Loc), kX E G s H locs ad (cto G S T o ad) → W p l e (headSpec (Cond.code yL_isGone cL_isGone 3 (some .boolean) :: wsL_law) ({ frames := 1, cells := 0, slots := 0, locals := 20 } : Room)).room s m ([.ref (ad 17 0), .ref (ad 17 10), .int (nI j)] : List Value).toArray below meth c H locs 0 0 (MQ below (kQi E G (fun r ad1 ct1 => r = bI (gone M j) ∧ ad = ad1 ∧ ct1 = cto G S T o ad)) ([.ref (ad 17 0), .ref (ad 17 10), .int (nI j)] : List Value).toArray s 0 0 (kB E.heap.size)) (F0 m 26 ls [.int (bI (gone M j))]) := by
    intro H locs X
    exact k_iret Z X hr hlocks bI_nar (by omega) (by omega) dL_isGone_26 ⟨rfl, rfl, rfl⟩
  refine lv_aload_n hx hb dL_isGone_0 rfl (lv_at hl 0 rfl) ?_
  refine lv_bipush (v := 8) hx hb dL_isGone_1 (by decide) ?_
  refine lv_iload_n hx hb dL_isGone_3 rfl (lv_at hl 2 rfl) ?_
  refine lv_iadd hx hb dL_isGone_4 ?_
  refine lv_topi (fun x_4 e_4 => ?_)
  obtain rfl : x_4 = nI (8 + j) := e_4.trans (nI_add 8 j)
  refine k_ild (ad := ad) (k := 17) (i := 0) Z X ct_17_0 (vp_in_nI (n := (8 + j)) (by first | assumption | omega) (by decide)) dL_isGone_5 ?_
  refine lv_topi (fun x_5 e_5 => ?_)
  obtain rfl : x_5 = T.1 1 (8 + j) := e_5.trans (by first | (simp only [nI_clamp (show 8 + j < 2 ^ 31 by omega)]; done) | rfl | (simp only [nI_clamp (show 8 + j < 2 ^ 31 by omega)]; rfl) | (simp only [nI_clamp (show 8 + j < 2 ^ 31 by omega)]; simp [sI, sN]; done))
  refine lv_topi (fun x_5 e_5 => ?_)
  obtain rfl : x_5 = M.1 2 j := e_5.trans (hT.e (by omega))
  refine lv_if_lt (tgt := 25) hx hb dL_isGone_6 (by decide) (fun c_6 => ?_) (fun c_6 => ?_)
  · refine lv_iconst (v := 0) hx hb dL_isGone_25 (by decide) ?_
    exact W.eq (congrArg (fun z => F0 m 26 ls (.int z :: [])) (bI_f (hT.go1 hj c_6))) (M_26 _ _ X)
  · refine lv_aload_n hx hb dL_isGone_9 rfl (lv_at hl 0 rfl) ?_
    refine lv_bipush (v := 8) hx hb dL_isGone_10 (by decide) ?_
    refine lv_iload_n hx hb dL_isGone_12 rfl (lv_at hl 2 rfl) ?_
    refine lv_iadd hx hb dL_isGone_13 ?_
    refine lv_topi (fun x_13 e_13 => ?_)
    obtain rfl : x_13 = nI (8 + j) := e_13.trans (nI_add 8 j)
    refine k_ild (ad := ad) (k := 17) (i := 0) Z X ct_17_0 (vp_in_nI (n := (8 + j)) (by first | assumption | omega) (by decide)) dL_isGone_14 ?_
    refine lv_topi (fun x_14 e_14 => ?_)
    obtain rfl : x_14 = T.1 1 (8 + j) := e_14.trans (by first | (simp only [nI_clamp (show 8 + j < 2 ^ 31 by omega)]; done) | rfl | (simp only [nI_clamp (show 8 + j < 2 ^ 31 by omega)]; rfl) | (simp only [nI_clamp (show 8 + j < 2 ^ 31 by omega)]; simp [sI, sN]; done))
    refine lv_topi (fun x_14 e_14 => ?_)
    obtain rfl : x_14 = M.1 2 j := e_14.trans (hT.e (by omega))
    refine lv_aload_n hx hb dL_isGone_15 rfl (lv_at hl 1 rfl) ?_
    refine lv_iconst (v := 0) hx hb dL_isGone_16 (by decide) ?_
    refine k_ild (ad := ad) (k := 17) (i := 10) Z X ct_17_10 (vp_in_nI (n := 0) (by first | assumption | omega) (by decide)) dL_isGone_17 ?_
    refine lv_topi (fun x_17 e_17 => ?_)
    obtain rfl : x_17 = T.1 11 0 := e_17.trans (by first | (simp only [nI_clamp (show 0 < 2 ^ 31 by omega)]; done) | rfl | (simp only [nI_clamp (show 0 < 2 ^ 31 by omega)]; rfl) | (simp only [nI_clamp (show 0 < 2 ^ 31 by omega)]; simp [sI, sN]; done))
    refine lv_topi (fun x_17 e_17 => ?_)
    obtain rfl : x_17 = M.1 0 0 := e_17.trans (hT.g0)
    refine lv_icmp_gt (tgt := 25) hx hb dL_isGone_18 (by decide) (fun c_18 => ?_) (fun c_18 => ?_)
    · refine lv_iconst (v := 0) hx hb dL_isGone_25 (by decide) ?_
      exact W.eq (congrArg (fun z => F0 m 26 ls (.int z :: [])) (bI_f (LT.go2 c_18))) (M_26 _ _ X)
    · refine lv_iconst (v := 1) hx hb dL_isGone_21 (by decide) ?_
      refine lv_goto (tgt := 26) hx hb dL_isGone_22 (by decide) ?_
      exact W.eq (congrArg (fun z => F0 m 26 ls (.int z :: [])) (bI_t (LT.go3 c_6 c_18))) (M_26 _ _ X)
theorem dL_counted_0 : decode cL_counted 0 = .ok (.iconst 0, 1) := by decide +kernel
theorem dL_counted_1 : decode cL_counted 1 = .ok (.istore 5, 2) := by decide +kernel
theorem dL_counted_3 : decode cL_counted 3 = .ok (.iconst 0, 1) := by decide +kernel
theorem dL_counted_4 : decode cL_counted 4 = .ok (.istore 6, 2) := by decide +kernel
theorem dL_counted_6 : decode cL_counted 6 = .ok (.iload 6, 2) := by decide +kernel
theorem dL_counted_8 : decode cL_counted 8 = .ok (.aload_n 2, 1) := by decide +kernel
theorem dL_counted_9 : decode cL_counted 9 = .ok (.iconst 1, 1) := by decide +kernel
theorem dL_counted_10 : decode cL_counted 10 = .ok (.iaload, 1) := by decide +kernel
theorem dL_counted_11 : decode cL_counted 11 = .ok (.if_icmp .ge 76, 3) := by decide +kernel
theorem dL_counted_14 : decode cL_counted 14 = .ok (.aload_n 1, 1) := by decide +kernel
theorem dL_counted_15 : decode cL_counted 15 = .ok (.iload_n 3, 1) := by decide +kernel
theorem dL_counted_16 : decode cL_counted 16 = .ok (.iaload, 1) := by decide +kernel
theorem dL_counted_17 : decode cL_counted 17 = .ok (.iconst 3, 1) := by decide +kernel
theorem dL_counted_18 : decode cL_counted 18 = .ok (.iload 6, 2) := by decide +kernel
theorem dL_counted_20 : decode cL_counted 20 = .ok (.imul, 1) := by decide +kernel
theorem dL_counted_21 : decode cL_counted 21 = .ok (.ishr, 1) := by decide +kernel
theorem dL_counted_22 : decode cL_counted 22 = .ok (.bipush 7, 2) := by decide +kernel
theorem dL_counted_24 : decode cL_counted 24 = .ok (.iand, 1) := by decide +kernel
theorem dL_counted_25 : decode cL_counted 25 = .ok (.istore 7, 2) := by decide +kernel
theorem dL_counted_27 : decode cL_counted 27 = .ok (.iload 5, 2) := by decide +kernel
theorem dL_counted_29 : decode cL_counted 29 = .ok (.iload 4, 2) := by decide +kernel
theorem dL_counted_31 : decode cL_counted 31 = .ok (.ifCond .ge 18, 3) := by decide +kernel
theorem dL_counted_34 : decode cL_counted 34 = .ok (.iload 7, 2) := by decide +kernel
theorem dL_counted_36 : decode cL_counted 36 = .ok (.iconst 1, 1) := by decide +kernel
theorem dL_counted_37 : decode cL_counted 37 = .ok (.if_icmp .eq 19, 3) := by decide +kernel
theorem dL_counted_40 : decode cL_counted 40 = .ok (.iload 7, 2) := by decide +kernel
theorem dL_counted_42 : decode cL_counted 42 = .ok (.iconst 2, 1) := by decide +kernel
theorem dL_counted_43 : decode cL_counted 43 = .ok (.if_icmp .ne 34, 3) := by decide +kernel
theorem dL_counted_46 : decode cL_counted 46 = .ok (.goto 10, 3) := by decide +kernel
theorem dL_counted_49 : decode cL_counted 49 = .ok (.iload 7, 2) := by decide +kernel
theorem dL_counted_51 : decode cL_counted 51 = .ok (.iload 4, 2) := by decide +kernel
theorem dL_counted_53 : decode cL_counted 53 = .ok (.if_icmp .ne 24, 3) := by decide +kernel
theorem dL_counted_56 : decode cL_counted 56 = .ok (.aload_n 0, 1) := by decide +kernel
theorem dL_counted_57 : decode cL_counted 57 = .ok (.aload_n 2, 1) := by decide +kernel
theorem dL_counted_58 : decode cL_counted 58 = .ok (.iload 6, 2) := by decide +kernel
theorem dL_counted_60 : decode cL_counted 60 = .ok (.invokestatic 79, 3) := by decide +kernel
theorem dL_counted_63 : decode cL_counted 63 = .ok (.ifCond .ne 14, 3) := by decide +kernel
theorem dL_counted_66 : decode cL_counted 66 = .ok (.aload_n 0, 1) := by decide +kernel
theorem dL_counted_67 : decode cL_counted 67 = .ok (.iload 6, 2) := by decide +kernel
theorem dL_counted_69 : decode cL_counted 69 = .ok (.iaload, 1) := by decide +kernel
theorem dL_counted_70 : decode cL_counted 70 = .ok (.ifCond .le 7, 3) := by decide +kernel
theorem dL_counted_73 : decode cL_counted 73 = .ok (.iconst 1, 1) := by decide +kernel
theorem dL_counted_74 : decode cL_counted 74 = .ok (.goto 4, 3) := by decide +kernel
theorem dL_counted_77 : decode cL_counted 77 = .ok (.iconst 0, 1) := by decide +kernel
theorem dL_counted_78 : decode cL_counted 78 = .ok (.iadd, 1) := by decide +kernel
theorem dL_counted_79 : decode cL_counted 79 = .ok (.istore 5, 2) := by decide +kernel
theorem dL_counted_81 : decode cL_counted 81 = .ok (.iinc 6 1, 3) := by decide +kernel
theorem dL_counted_84 : decode cL_counted 84 = .ok (.goto (-78), 3) := by decide +kernel
theorem dL_counted_87 : decode cL_counted 87 = .ok (.iload 5, 2) := by decide +kernel
theorem dL_counted_89 : decode cL_counted 89 = .ok (.ireturn, 1) := by decide +kernel
set_option maxHeartbeats 4000000 in
set_option maxRecDepth 100000 in
theorem c_L_counted1 (l : Launch) (E : State) (G : kG) (S T : kSt) (o : Int64) (ad : kAd) (M : kSt) (hT : LT M T) (a : Nat) (ha : a < M.2 0 1) : Met l yL_counted (.code yL_counted cL_counted 8 (some .int) :: wsL_law) ({ frames := 2, cells := 0, slots := 0, locals := 60 } : Room) (va_Pc [.ref (ad 17 0), .ref (ad 17 4), .ref (ad 17 10), .int (nI a), .int (-1)] (kPre E G ad (cto G S T o ad))) (kQi E G (fun r ad1 ct1 => r = nI (cntN M (kdS M a) (M.2 0 0)) ∧ ad = ad1 ∧ ct1 = cto G S T o ad)) 0 0 (kB E.heap.size) := by
  refine Met.ofW (cc := cL_counted) (maxL := 8) (ret := (some .int)) (by decide) rfl ?_
  intro p e s m args below meth c s₁ B hml hv
  obtain ⟨rfl, hM, hK, hW0⟩ := hv
  have hlocks := B.notSynchronized
  have hr := B.returns
  have Z : kZ p m c cL_counted 8 s _ wsL_law RL E G := ⟨⟨B.exec, B.bytes, hml, findClass_of_methodNamed B.named, fun w h => atoms_spec (ws := .code yL_counted cL_counted 8 (some .int) :: wsL_law) B.pre w (List.mem_cons_of_mem _ h)⟩, hM, hK⟩
  have hx := Z.1.1
  have hb := Z.1.2.1
  have X := kX.of hW0
  have hl := lv_entry ([.ref (ad 17 0), .ref (ad 17 4), .ref (ad 17 10), .int (nI a), .int (-1)]) (n := 8) (Nat.le_of_ble_eq_true rfl)
  rw [lg_entry_eq]
  generalize (lg_sl ([.ref (ad 17 0), .ref (ad 17 4), .ref (ad 17 10), .int (nI a), .int (-1)]) ++ List.replicate (8 - (lg_sl ([.ref (ad 17 0), .ref (ad 17 4), .ref (ad 17 10), .int (nI a), .int (-1)])).length) Slot.unset).toArray = ls at hl ⊢
  have hl : lv_has ls 8 [(0, .ref (ad 17 0)), (1, .ref (ad 17 4)), (2, .ref (ad 17 10)), (3, .int (nI a)), (4, .int (-1))] := hl
  obtain ⟨hc0, hc1, hc2, hc3⟩ := hT.c
  obtain ⟨dg, hdg, hdx, hdd⟩ := hT.d ha
  refine lv_iconst (v := 0) hx hb dL_counted_0 (by decide) ?_
  refine lv_istore (lv' := [(5, .int 0), (0, .ref (ad 17 0)), (1, .ref (ad 17 4)), (2, .ref (ad 17 10)), (3, .int (nI a)), (4, .int (-1))]) hx hb dL_counted_1 hl (by decide) rfl (fun ls hl => ?_)
  refine lv_iconst (v := 0) hx hb dL_counted_3 (by decide) ?_
  refine lv_istore (lv' := [(6, .int 0), (5, .int 0), (0, .ref (ad 17 0)), (1, .ref (ad 17 4)), (2, .ref (ad 17 10)), (3, .int (nI a)), (4, .int (-1))]) hx hb dL_counted_4 hl (by decide) rfl (fun ls hl => ?_)
  have LOOP_6 : ∀ (d : Nat) (i : Nat), i ≤ M.2 0 0 → M.2 0 0 < i + d → ∀ (H : Heap) (locs : List Loc) (ls : Array Slot), kX E G s H locs ad (cto G S T o ad) → lv_has ls 8 [(6, .int (nI i)), (5, .int (nI (cntN M (kdS M a) i))), (0, .ref (ad 17 0)), (1, .ref (ad 17 4)), (2, .ref (ad 17 10)), (3, .int (nI a)), (4, .int (-1))] → W p l e (headSpec (Cond.code yL_counted cL_counted 8 (some .int) :: wsL_law) ({ frames := 2, cells := 0, slots := 0, locals := 60 } : Room)).room s m ([.ref (ad 17 0), .ref (ad 17 4), .ref (ad 17 10), .int (nI a), .int (-1)] : List Value).toArray below meth c H locs 0 0 (MQ below (kQi E G (fun r ad1 ct1 => r = nI (cntN M (kdS M a) (M.2 0 0)) ∧ ad = ad1 ∧ ct1 = cto G S T o ad)) ([.ref (ad 17 0), .ref (ad 17 4), .ref (ad 17 10), .int (nI a), .int (-1)] : List Value).toArray s 0 0 (kB E.heap.size)) (F0 m 6 ls []) := by
    intro d
    induction d with
    | zero => intro i h1 h2; intros; exact absurd h2 (by omega)
    | succ d ih =>
      intro i h1 h2 H locs ls X hl
      refine lv_iload hx hb dL_counted_6 (lv_at hl 0 rfl) ?_
      refine lv_aload_n hx hb dL_counted_8 rfl (lv_at hl 4 rfl) ?_
      refine lv_iconst (v := 1) hx hb dL_counted_9 (by decide) ?_
      refine k_ild (ad := ad) (k := 17) (i := 10) Z X ct_17_10 (vp_in_nI (n := 1) (by first | assumption | omega) (by decide)) dL_counted_10 ?_
      refine lv_topi (fun x_10 e_10 => ?_)
      obtain rfl : x_10 = T.1 11 1 := e_10.trans (by first | (simp only [nI_clamp (show 1 < 2 ^ 31 by omega)]; done) | rfl | (simp only [nI_clamp (show 1 < 2 ^ 31 by omega)]; rfl) | (simp only [nI_clamp (show 1 < 2 ^ 31 by omega)]; simp [sI, sN]; done))
      refine lv_topi (fun x_10 e_10 => ?_)
      obtain rfl : x_10 = nI (M.2 0 0) := e_10.trans (hT.g1)
      refine lv_icmp_ge (tgt := 87) hx hb dL_counted_11 (by decide) (fun c_11 => ?_) (fun c_11 => ?_)
      · have c_11 : M.2 0 0 ≤ i := (nI_leI (a := M.2 0 0) (b := i) (by omega) (by omega)).mp c_11
        refine lv_iload hx hb dL_counted_87 (lv_at hl 1 rfl) ?_
        have hn : i = M.2 0 0 := by omega
        subst hn
        exact k_iret Z X hr hlocks rfl (by omega) (by omega) dL_counted_89 ⟨rfl, rfl, rfl⟩
      · have c_11 : ¬ M.2 0 0 ≤ i := fun h => c_11 ((nI_leI (a := M.2 0 0) (b := i) (by omega) (by omega)).mpr h)
        have hdi := hdg i (by omega)
        refine lv_aload_n hx hb dL_counted_14 rfl (lv_at hl 3 rfl) ?_
        refine lv_iload_n hx hb dL_counted_15 rfl (lv_at hl 5 rfl) ?_
        refine k_ild (ad := ad) (k := 17) (i := 4) Z X ct_17_4 (vp_in_nI (n := a) (by first | assumption | omega) (by decide)) dL_counted_16 ?_
        refine lv_topi (fun x_16 e_16 => ?_)
        obtain rfl : x_16 = T.1 5 a := e_16.trans (by first | (simp only [nI_clamp (show a < 2 ^ 31 by omega)]; done) | rfl | (simp only [nI_clamp (show a < 2 ^ 31 by omega)]; rfl) | (simp only [nI_clamp (show a < 2 ^ 31 by omega)]; simp [sI, sN]; done))
        refine lv_topi (fun x_16 e_16 => ?_)
        obtain rfl : x_16 = nI (k8 dg) := e_16.trans (hdx)
        refine lv_iconst (v := 3) hx hb dL_counted_17 (by decide) ?_
        refine lv_iload hx hb dL_counted_18 (lv_at hl 0 rfl) ?_
        refine lv_imul hx hb dL_counted_20 ?_
        refine lv_topi (fun x_20 e_20 => ?_)
        obtain rfl : x_20 = nI (3 * i) := e_20.trans (pk_mul 3 i)
        refine lv_ishr hx hb dL_counted_21 ?_
        refine lv_topi (fun x_21 e_21 => ?_)
        obtain rfl : x_21 = nI (k8 dg / 2 ^ (3 * i)) := e_21.trans (n_shr (Nat.lt_trans (k8_lt hdg) (by decide)) (by omega))
        refine lv_bipush (v := 7) hx hb dL_counted_22 (by decide) ?_
        refine lv_iand hx hb dL_counted_24 ?_
        refine lv_topi (fun x_24 e_24 => ?_)
        obtain rfl : x_24 = nI (dg i) := e_24.trans ((pk_andN (Nat.lt_of_le_of_lt (Nat.div_le_self _ _) (Nat.lt_trans (k8_lt hdg) (by decide))) 3 rfl).trans (congrArg nI (k8_at hdg i (by omega))))
        refine lv_istore (lv' := [(7, .int (nI (dg i))), (6, .int (nI i)), (5, .int (nI (cntN M (kdS M a) i))), (0, .ref (ad 17 0)), (1, .ref (ad 17 4)), (2, .ref (ad 17 10)), (3, .int (nI a)), (4, .int (-1))]) hx hb dL_counted_25 hl (by decide) rfl (fun ls hl => ?_)
        refine lv_iload hx hb dL_counted_27 (lv_at hl 2 rfl) ?_
        have M_78 : ∀ (H : Heap) (locs : List Loc), kX E G s H locs ad (cto G S T o ad) → W p l e (headSpec (Cond.code yL_counted cL_counted 8 (some .int) :: wsL_law) ({ frames := 2, cells := 0, slots := 0, locals := 60 } : Room)).room s m ([.ref (ad 17 0), .ref (ad 17 4), .ref (ad 17 10), .int (nI a), .int (-1)] : List Value).toArray below meth c H locs 0 0 (MQ below (kQi E G (fun r ad1 ct1 => r = nI (cntN M (kdS M a) (M.2 0 0)) ∧ ad = ad1 ∧ ct1 = cto G S T o ad)) ([.ref (ad 17 0), .ref (ad 17 4), .ref (ad 17 10), .int (nI a), .int (-1)] : List Value).toArray s 0 0 (kB E.heap.size)) (F0 m 78 ls [.int (bI (cnts M (kdS M a) i)), .int (nI (cntN M (kdS M a) i))]) := by
          intro H locs X
          refine lv_iadd hx hb dL_counted_78 ?_
          refine lv_topi (fun x_78 e_78 => ?_)
          obtain rfl : x_78 = nI (cntN M (kdS M a) (i + 1)) := e_78.trans (n_bI _ _)
          refine lv_istore (lv' := [(5, .int (nI (cntN M (kdS M a) (i + 1)))), (7, .int (nI (dg i))), (6, .int (nI i)), (0, .ref (ad 17 0)), (1, .ref (ad 17 4)), (2, .ref (ad 17 10)), (3, .int (nI a)), (4, .int (-1))]) hx hb dL_counted_79 hl (by decide) rfl (fun ls hl => ?_)
          refine lv_iinc (v := (nI (i + 1))) (lv' := [(6, .int (nI (i + 1))), (5, .int (nI (cntN M (kdS M a) (i + 1)))), (7, .int (nI (dg i))), (0, .ref (ad 17 0)), (1, .ref (ad 17 4)), (2, .ref (ad 17 10)), (3, .int (nI a)), (4, .int (-1))]) hx hb dL_counted_81 hl (k := 2) rfl (nI_1 _) (by decide) rfl (fun ls hl => ?_)
          refine lv_goto (tgt := 6) hx hb dL_counted_84 (by decide) ?_
          exact ih (i + 1) (by omega) (by omega) _ _ _ X (lv_sub hl [0, 1, 3, 4, 5, 6, 7] rfl)
        refine lv_iload hx hb dL_counted_29 (lv_at hl 7 rfl) ?_
        refine lv_if_ge (tgt := 49) hx hb dL_counted_31 (by decide) (fun c_31 => ?_) (fun c_31 => ?_)
        · exact absurd c_31 (by decide)
        · refine lv_iload hx hb dL_counted_34 (lv_at hl 0 rfl) ?_
          refine lv_iconst (v := 1) hx hb dL_counted_36 (by decide) ?_
          refine lv_icmp_eq (tgt := 56) hx hb dL_counted_37 (by decide) (fun c_37 => ?_) (fun c_37 => ?_)
          · have c_37 : dg i = 1 := (nI_eq (a := dg i) (b := 1) (by omega) (by omega)).mp c_37
            have s_37 : kdS M a i = 0 := (hdd i (by omega)).1.mp c_37
            refine lv_aload_n hx hb dL_counted_56 rfl (lv_at hl 3 rfl) ?_
            refine lv_aload_n hx hb dL_counted_57 rfl (lv_at hl 5 rfl) ?_
            refine lv_iload hx hb dL_counted_58 (lv_at hl 1 rfl) ?_
            refine k_Ri X (k_runS (As := [.ref (ad 17 0), .ref (ad 17 10), .int (nI i)]) (rest := [.int (nI (cntN M (kdS M a) i))]) Z X (c_L_isGone l E G S T o ad M hT i (by omega)) (k_cwS 3 Z.1.2.2.2.2 (inU_27 _ (List.mem_of_getElem? (i := 11) rfl)) (inU_27 _ (List.mem_of_getElem? (i := 12) rfl)) (inU_6 _ (List.mem_of_getElem? (i := 5) rfl)) (inU_27 _ (List.mem_of_getElem? (i := 13) rfl)) rfl rfl (by decide +kernel) ⟨Nat.le_of_ble_eq_true rfl, Nat.le_of_ble_eq_true rfl⟩) rfl hl.1 rfl (Nat.le_of_ble_eq_true rfl) dL_counted_60 ⟨(by first | exact Nat.le_of_ble_eq_true rfl | (show _ ≤ (_ : Nat); simp only [headSpec]; omega)), (by first | exact Nat.le_of_ble_eq_true rfl | (show _ ≤ (_ : Nat); simp only [headSpec]; omega))⟩) (fun r_60 ad1 ct1 H locs hp X => ?_)
            obtain ⟨rfl, ha_, hb_⟩ := hp
            rw [← ha_, hb_] at X
            refine lv_if_ne (tgt := 77) hx hb dL_counted_63 (by decide) (fun c_63 => ?_) (fun c_63 => ?_)
            · have c_63 : (gone M i) = true := bI_1 c_63
              have s_63 := c_63
              refine lv_iconst (v := 0) hx hb dL_counted_77 (by decide) ?_
              exact W.eq (congrArg (fun z => F0 m 78 ls (.int z :: [.int (nI (cntN M (kdS M a) i))])) (bI_f (by simp [cnts, s_37, s_63]))) (M_78 _ _ X)
            · have c_63 : (gone M i) = false := bI_0 c_63
              have s_63 := c_63
              refine lv_aload_n hx hb dL_counted_66 rfl (lv_at hl 3 rfl) ?_
              refine lv_iload hx hb dL_counted_67 (lv_at hl 1 rfl) ?_
              refine k_ild (ad := ad) (k := 17) (i := 0) Z X ct_17_0 (vp_in_nI (n := i) (by first | assumption | omega) (by decide)) dL_counted_69 ?_
              refine lv_topi (fun x_69 e_69 => ?_)
              obtain rfl : x_69 = T.1 1 i := e_69.trans (by first | (simp only [nI_clamp (show i < 2 ^ 31 by omega)]; done) | rfl | (simp only [nI_clamp (show i < 2 ^ 31 by omega)]; rfl) | (simp only [nI_clamp (show i < 2 ^ 31 by omega)]; simp [sI, sN]; done))
              refine lv_topi (fun x_69 e_69 => ?_)
              obtain rfl : x_69 = M.1 1 i := e_69.trans (hT.u (by omega))
              refine lv_if_le (tgt := 77) hx hb dL_counted_70 (by decide) (fun c_70 => ?_) (fun c_70 => ?_)
              · have s_70 : M.1 1 i = 0 := (hT.rk (by omega)).mp c_70
                refine lv_iconst (v := 0) hx hb dL_counted_77 (by decide) ?_
                exact W.eq (congrArg (fun z => F0 m 78 ls (.int z :: [.int (nI (cntN M (kdS M a) i))])) (bI_f (by simp [cnts, s_37, s_63, s_70]))) (M_78 _ _ X)
              · have s_70 : ¬ M.1 1 i = 0 := fun z => c_70 ((hT.rk (by omega)).mpr z)
                refine lv_iconst (v := 1) hx hb dL_counted_73 (by decide) ?_
                refine lv_goto (tgt := 78) hx hb dL_counted_74 (by decide) ?_
                exact W.eq (congrArg (fun z => F0 m 78 ls (.int z :: [.int (nI (cntN M (kdS M a) i))])) (bI_t (by simp [cnts, s_37, s_63, s_70]))) (M_78 _ _ X)
          · have c_37 : ¬ dg i = 1 := fun h => c_37 ((nI_eq (a := dg i) (b := 1) (by omega) (by omega)).mpr h)
            have s_37 : ¬ kdS M a i = 0 := fun z => c_37 ((hdd i (by omega)).1.mpr z)
            refine lv_iload hx hb dL_counted_40 (lv_at hl 0 rfl) ?_
            refine lv_iconst (v := 2) hx hb dL_counted_42 (by decide) ?_
            refine lv_icmp_ne (tgt := 77) hx hb dL_counted_43 (by decide) (fun c_43 => ?_) (fun c_43 => ?_)
            · have c_43 : ¬ dg i = 2 := fun h => c_43 ((nI_eq (a := dg i) (b := 2) (by omega) (by omega)).mpr h)
              have s_43 : kdS M a i = -1 := (hdd i (by omega)).2.2.mpr ⟨c_37, c_43⟩
              refine lv_iconst (v := 0) hx hb dL_counted_77 (by decide) ?_
              exact W.eq (congrArg (fun z => F0 m 78 ls (.int z :: [.int (nI (cntN M (kdS M a) i))])) (bI_f (by simp [cnts, s_37, s_43]))) (M_78 _ _ X)
            · have c_43 : dg i = 2 := (nI_eq (a := dg i) (b := 2) (by omega) (by omega)).mp c_43
              have s_43 : kdS M a i = 1 := (hdd i (by omega)).2.1.mp c_43
              refine lv_goto (tgt := 56) hx hb dL_counted_46 (by decide) ?_
              refine lv_aload_n hx hb dL_counted_56 rfl (lv_at hl 3 rfl) ?_
              refine lv_aload_n hx hb dL_counted_57 rfl (lv_at hl 5 rfl) ?_
              refine lv_iload hx hb dL_counted_58 (lv_at hl 1 rfl) ?_
              refine k_Ri X (k_runS (As := [.ref (ad 17 0), .ref (ad 17 10), .int (nI i)]) (rest := [.int (nI (cntN M (kdS M a) i))]) Z X (c_L_isGone l E G S T o ad M hT i (by omega)) (k_cwS 3 Z.1.2.2.2.2 (inU_27 _ (List.mem_of_getElem? (i := 11) rfl)) (inU_27 _ (List.mem_of_getElem? (i := 12) rfl)) (inU_6 _ (List.mem_of_getElem? (i := 5) rfl)) (inU_27 _ (List.mem_of_getElem? (i := 13) rfl)) rfl rfl (by decide +kernel) ⟨Nat.le_of_ble_eq_true rfl, Nat.le_of_ble_eq_true rfl⟩) rfl hl.1 rfl (Nat.le_of_ble_eq_true rfl) dL_counted_60 ⟨(by first | exact Nat.le_of_ble_eq_true rfl | (show _ ≤ (_ : Nat); simp only [headSpec]; omega)), (by first | exact Nat.le_of_ble_eq_true rfl | (show _ ≤ (_ : Nat); simp only [headSpec]; omega))⟩) (fun r_60 ad1 ct1 H locs hp X => ?_)
              obtain ⟨rfl, ha_, hb_⟩ := hp
              rw [← ha_, hb_] at X
              refine lv_if_ne (tgt := 77) hx hb dL_counted_63 (by decide) (fun c_63 => ?_) (fun c_63 => ?_)
              · have c_63 : (gone M i) = true := bI_1 c_63
                have s_63 := c_63
                refine lv_iconst (v := 0) hx hb dL_counted_77 (by decide) ?_
                exact W.eq (congrArg (fun z => F0 m 78 ls (.int z :: [.int (nI (cntN M (kdS M a) i))])) (bI_f (by simp [cnts, s_37, s_43, s_63]))) (M_78 _ _ X)
              · have c_63 : (gone M i) = false := bI_0 c_63
                have s_63 := c_63
                refine lv_aload_n hx hb dL_counted_66 rfl (lv_at hl 3 rfl) ?_
                refine lv_iload hx hb dL_counted_67 (lv_at hl 1 rfl) ?_
                refine k_ild (ad := ad) (k := 17) (i := 0) Z X ct_17_0 (vp_in_nI (n := i) (by first | assumption | omega) (by decide)) dL_counted_69 ?_
                refine lv_topi (fun x_69 e_69 => ?_)
                obtain rfl : x_69 = T.1 1 i := e_69.trans (by first | (simp only [nI_clamp (show i < 2 ^ 31 by omega)]; done) | rfl | (simp only [nI_clamp (show i < 2 ^ 31 by omega)]; rfl) | (simp only [nI_clamp (show i < 2 ^ 31 by omega)]; simp [sI, sN]; done))
                refine lv_topi (fun x_69 e_69 => ?_)
                obtain rfl : x_69 = M.1 1 i := e_69.trans (hT.u (by omega))
                refine lv_if_le (tgt := 77) hx hb dL_counted_70 (by decide) (fun c_70 => ?_) (fun c_70 => ?_)
                · have s_70 : M.1 1 i = 0 := (hT.rk (by omega)).mp c_70
                  refine lv_iconst (v := 0) hx hb dL_counted_77 (by decide) ?_
                  exact W.eq (congrArg (fun z => F0 m 78 ls (.int z :: [.int (nI (cntN M (kdS M a) i))])) (bI_f (by simp [cnts, s_37, s_43, s_63, s_70]))) (M_78 _ _ X)
                · have s_70 : ¬ M.1 1 i = 0 := fun z => c_70 ((hT.rk (by omega)).mpr z)
                  refine lv_iconst (v := 1) hx hb dL_counted_73 (by decide) ?_
                  refine lv_goto (tgt := 78) hx hb dL_counted_74 (by decide) ?_
                  exact W.eq (congrArg (fun z => F0 m 78 ls (.int z :: [.int (nI (cntN M (kdS M a) i))])) (bI_t (by simp [cnts, s_37, s_43, s_63, s_70]))) (M_78 _ _ X)
  exact LOOP_6 (M.2 0 0 + 1) 0 (Nat.zero_le _) (by omega) _ _ _ X (lv_sub hl [0, 1, 2, 3, 4, 5, 6] rfl)
set_option maxHeartbeats 4000000 in
set_option maxRecDepth 100000 in
theorem c_L_counted2 (l : Launch) (E : State) (G : kG) (S T : kSt) (o : Int64) (ad : kAd) (M : kSt) (hT : LT M T) (a : Nat) (ha : a < M.2 0 1) : Met l yL_counted (.code yL_counted cL_counted 8 (some .int) :: wsL_law) ({ frames := 2, cells := 0, slots := 0, locals := 60 } : Room) (va_Pc [.ref (ad 17 0), .ref (ad 17 4), .ref (ad 17 10), .int (nI a), .int 2] (kPre E G ad (cto G S T o ad))) (kQi E G (fun r ad1 ct1 => r = nI (noN M (kdS M a) (M.2 0 0)) ∧ ad = ad1 ∧ ct1 = cto G S T o ad)) 0 0 (kB E.heap.size) := by
  refine Met.ofW (cc := cL_counted) (maxL := 8) (ret := (some .int)) (by decide) rfl ?_
  intro p e s m args below meth c s₁ B hml hv
  obtain ⟨rfl, hM, hK, hW0⟩ := hv
  have hlocks := B.notSynchronized
  have hr := B.returns
  have Z : kZ p m c cL_counted 8 s _ wsL_law RL E G := ⟨⟨B.exec, B.bytes, hml, findClass_of_methodNamed B.named, fun w h => atoms_spec (ws := .code yL_counted cL_counted 8 (some .int) :: wsL_law) B.pre w (List.mem_cons_of_mem _ h)⟩, hM, hK⟩
  have hx := Z.1.1
  have hb := Z.1.2.1
  have X := kX.of hW0
  have hl := lv_entry ([.ref (ad 17 0), .ref (ad 17 4), .ref (ad 17 10), .int (nI a), .int 2]) (n := 8) (Nat.le_of_ble_eq_true rfl)
  rw [lg_entry_eq]
  generalize (lg_sl ([.ref (ad 17 0), .ref (ad 17 4), .ref (ad 17 10), .int (nI a), .int 2]) ++ List.replicate (8 - (lg_sl ([.ref (ad 17 0), .ref (ad 17 4), .ref (ad 17 10), .int (nI a), .int 2])).length) Slot.unset).toArray = ls at hl ⊢
  have hl : lv_has ls 8 [(0, .ref (ad 17 0)), (1, .ref (ad 17 4)), (2, .ref (ad 17 10)), (3, .int (nI a)), (4, .int 2)] := hl
  obtain ⟨hc0, hc1, hc2, hc3⟩ := hT.c
  obtain ⟨dg, hdg, hdx, hdd⟩ := hT.d ha
  refine lv_iconst (v := 0) hx hb dL_counted_0 (by decide) ?_
  refine lv_istore (lv' := [(5, .int 0), (0, .ref (ad 17 0)), (1, .ref (ad 17 4)), (2, .ref (ad 17 10)), (3, .int (nI a)), (4, .int 2)]) hx hb dL_counted_1 hl (by decide) rfl (fun ls hl => ?_)
  refine lv_iconst (v := 0) hx hb dL_counted_3 (by decide) ?_
  refine lv_istore (lv' := [(6, .int 0), (5, .int 0), (0, .ref (ad 17 0)), (1, .ref (ad 17 4)), (2, .ref (ad 17 10)), (3, .int (nI a)), (4, .int 2)]) hx hb dL_counted_4 hl (by decide) rfl (fun ls hl => ?_)
  have LOOP_6 : ∀ (d : Nat) (i : Nat), i ≤ M.2 0 0 → M.2 0 0 < i + d → ∀ (H : Heap) (locs : List Loc) (ls : Array Slot), kX E G s H locs ad (cto G S T o ad) → lv_has ls 8 [(6, .int (nI i)), (5, .int (nI (noN M (kdS M a) i))), (0, .ref (ad 17 0)), (1, .ref (ad 17 4)), (2, .ref (ad 17 10)), (3, .int (nI a)), (4, .int 2)] → W p l e (headSpec (Cond.code yL_counted cL_counted 8 (some .int) :: wsL_law) ({ frames := 2, cells := 0, slots := 0, locals := 60 } : Room)).room s m ([.ref (ad 17 0), .ref (ad 17 4), .ref (ad 17 10), .int (nI a), .int 2] : List Value).toArray below meth c H locs 0 0 (MQ below (kQi E G (fun r ad1 ct1 => r = nI (noN M (kdS M a) (M.2 0 0)) ∧ ad = ad1 ∧ ct1 = cto G S T o ad)) ([.ref (ad 17 0), .ref (ad 17 4), .ref (ad 17 10), .int (nI a), .int 2] : List Value).toArray s 0 0 (kB E.heap.size)) (F0 m 6 ls []) := by
    intro d
    induction d with
    | zero => intro i h1 h2; intros; exact absurd h2 (by omega)
    | succ d ih =>
      intro i h1 h2 H locs ls X hl
      refine lv_iload hx hb dL_counted_6 (lv_at hl 0 rfl) ?_
      refine lv_aload_n hx hb dL_counted_8 rfl (lv_at hl 4 rfl) ?_
      refine lv_iconst (v := 1) hx hb dL_counted_9 (by decide) ?_
      refine k_ild (ad := ad) (k := 17) (i := 10) Z X ct_17_10 (vp_in_nI (n := 1) (by first | assumption | omega) (by decide)) dL_counted_10 ?_
      refine lv_topi (fun x_10 e_10 => ?_)
      obtain rfl : x_10 = T.1 11 1 := e_10.trans (by first | (simp only [nI_clamp (show 1 < 2 ^ 31 by omega)]; done) | rfl | (simp only [nI_clamp (show 1 < 2 ^ 31 by omega)]; rfl) | (simp only [nI_clamp (show 1 < 2 ^ 31 by omega)]; simp [sI, sN]; done))
      refine lv_topi (fun x_10 e_10 => ?_)
      obtain rfl : x_10 = nI (M.2 0 0) := e_10.trans (hT.g1)
      refine lv_icmp_ge (tgt := 87) hx hb dL_counted_11 (by decide) (fun c_11 => ?_) (fun c_11 => ?_)
      · have c_11 : M.2 0 0 ≤ i := (nI_leI (a := M.2 0 0) (b := i) (by omega) (by omega)).mp c_11
        refine lv_iload hx hb dL_counted_87 (lv_at hl 1 rfl) ?_
        have hn : i = M.2 0 0 := by omega
        subst hn
        exact k_iret Z X hr hlocks rfl (by omega) (by omega) dL_counted_89 ⟨rfl, rfl, rfl⟩
      · have c_11 : ¬ M.2 0 0 ≤ i := fun h => c_11 ((nI_leI (a := M.2 0 0) (b := i) (by omega) (by omega)).mpr h)
        have hdi := hdg i (by omega)
        refine lv_aload_n hx hb dL_counted_14 rfl (lv_at hl 3 rfl) ?_
        refine lv_iload_n hx hb dL_counted_15 rfl (lv_at hl 5 rfl) ?_
        refine k_ild (ad := ad) (k := 17) (i := 4) Z X ct_17_4 (vp_in_nI (n := a) (by first | assumption | omega) (by decide)) dL_counted_16 ?_
        refine lv_topi (fun x_16 e_16 => ?_)
        obtain rfl : x_16 = T.1 5 a := e_16.trans (by first | (simp only [nI_clamp (show a < 2 ^ 31 by omega)]; done) | rfl | (simp only [nI_clamp (show a < 2 ^ 31 by omega)]; rfl) | (simp only [nI_clamp (show a < 2 ^ 31 by omega)]; simp [sI, sN]; done))
        refine lv_topi (fun x_16 e_16 => ?_)
        obtain rfl : x_16 = nI (k8 dg) := e_16.trans (hdx)
        refine lv_iconst (v := 3) hx hb dL_counted_17 (by decide) ?_
        refine lv_iload hx hb dL_counted_18 (lv_at hl 0 rfl) ?_
        refine lv_imul hx hb dL_counted_20 ?_
        refine lv_topi (fun x_20 e_20 => ?_)
        obtain rfl : x_20 = nI (3 * i) := e_20.trans (pk_mul 3 i)
        refine lv_ishr hx hb dL_counted_21 ?_
        refine lv_topi (fun x_21 e_21 => ?_)
        obtain rfl : x_21 = nI (k8 dg / 2 ^ (3 * i)) := e_21.trans (n_shr (Nat.lt_trans (k8_lt hdg) (by decide)) (by omega))
        refine lv_bipush (v := 7) hx hb dL_counted_22 (by decide) ?_
        refine lv_iand hx hb dL_counted_24 ?_
        refine lv_topi (fun x_24 e_24 => ?_)
        obtain rfl : x_24 = nI (dg i) := e_24.trans ((pk_andN (Nat.lt_of_le_of_lt (Nat.div_le_self _ _) (Nat.lt_trans (k8_lt hdg) (by decide))) 3 rfl).trans (congrArg nI (k8_at hdg i (by omega))))
        refine lv_istore (lv' := [(7, .int (nI (dg i))), (6, .int (nI i)), (5, .int (nI (noN M (kdS M a) i))), (0, .ref (ad 17 0)), (1, .ref (ad 17 4)), (2, .ref (ad 17 10)), (3, .int (nI a)), (4, .int 2)]) hx hb dL_counted_25 hl (by decide) rfl (fun ls hl => ?_)
        refine lv_iload hx hb dL_counted_27 (lv_at hl 2 rfl) ?_
        have M_78 : ∀ (H : Heap) (locs : List Loc), kX E G s H locs ad (cto G S T o ad) → W p l e (headSpec (Cond.code yL_counted cL_counted 8 (some .int) :: wsL_law) ({ frames := 2, cells := 0, slots := 0, locals := 60 } : Room)).room s m ([.ref (ad 17 0), .ref (ad 17 4), .ref (ad 17 10), .int (nI a), .int 2] : List Value).toArray below meth c H locs 0 0 (MQ below (kQi E G (fun r ad1 ct1 => r = nI (noN M (kdS M a) (M.2 0 0)) ∧ ad = ad1 ∧ ct1 = cto G S T o ad)) ([.ref (ad 17 0), .ref (ad 17 4), .ref (ad 17 10), .int (nI a), .int 2] : List Value).toArray s 0 0 (kB E.heap.size)) (F0 m 78 ls [.int (bI (cnts M (kdS M a) i && decide (kdS M a i = 1))), .int (nI (noN M (kdS M a) i))]) := by
          intro H locs X
          refine lv_iadd hx hb dL_counted_78 ?_
          refine lv_topi (fun x_78 e_78 => ?_)
          obtain rfl : x_78 = nI (noN M (kdS M a) (i + 1)) := e_78.trans (n_bI _ _)
          refine lv_istore (lv' := [(5, .int (nI (noN M (kdS M a) (i + 1)))), (7, .int (nI (dg i))), (6, .int (nI i)), (0, .ref (ad 17 0)), (1, .ref (ad 17 4)), (2, .ref (ad 17 10)), (3, .int (nI a)), (4, .int 2)]) hx hb dL_counted_79 hl (by decide) rfl (fun ls hl => ?_)
          refine lv_iinc (v := (nI (i + 1))) (lv' := [(6, .int (nI (i + 1))), (5, .int (nI (noN M (kdS M a) (i + 1)))), (7, .int (nI (dg i))), (0, .ref (ad 17 0)), (1, .ref (ad 17 4)), (2, .ref (ad 17 10)), (3, .int (nI a)), (4, .int 2)]) hx hb dL_counted_81 hl (k := 2) rfl (nI_1 _) (by decide) rfl (fun ls hl => ?_)
          refine lv_goto (tgt := 6) hx hb dL_counted_84 (by decide) ?_
          exact ih (i + 1) (by omega) (by omega) _ _ _ X (lv_sub hl [0, 1, 3, 4, 5, 6, 7] rfl)
        refine lv_iload hx hb dL_counted_29 (lv_at hl 7 rfl) ?_
        refine lv_if_ge (tgt := 49) hx hb dL_counted_31 (by decide) (fun c_31 => ?_) (fun c_31 => ?_)
        · refine lv_iload hx hb dL_counted_49 (lv_at hl 0 rfl) ?_
          refine lv_iload hx hb dL_counted_51 (lv_at hl 7 rfl) ?_
          refine lv_icmp_ne (tgt := 77) hx hb dL_counted_53 (by decide) (fun c_53 => ?_) (fun c_53 => ?_)
          · have c_53 : ¬ dg i = 2 := fun h => c_53 ((nI_eq (a := dg i) (b := 2) (by omega) (by omega)).mpr h)
            have s_53 : ¬ kdS M a i = 1 := fun z => c_53 ((hdd i (by omega)).2.1.mpr z)
            refine lv_iconst (v := 0) hx hb dL_counted_77 (by decide) ?_
            exact W.eq (congrArg (fun z => F0 m 78 ls (.int z :: [.int (nI (noN M (kdS M a) i))])) (bI_f (by simp [cnts, s_53]))) (M_78 _ _ X)
          · have c_53 : dg i = 2 := (nI_eq (a := dg i) (b := 2) (by omega) (by omega)).mp c_53
            have s_53 : kdS M a i = 1 := (hdd i (by omega)).2.1.mp c_53
            refine lv_aload_n hx hb dL_counted_56 rfl (lv_at hl 3 rfl) ?_
            refine lv_aload_n hx hb dL_counted_57 rfl (lv_at hl 5 rfl) ?_
            refine lv_iload hx hb dL_counted_58 (lv_at hl 1 rfl) ?_
            refine k_Ri X (k_runS (As := [.ref (ad 17 0), .ref (ad 17 10), .int (nI i)]) (rest := [.int (nI (noN M (kdS M a) i))]) Z X (c_L_isGone l E G S T o ad M hT i (by omega)) (k_cwS 3 Z.1.2.2.2.2 (inU_27 _ (List.mem_of_getElem? (i := 11) rfl)) (inU_27 _ (List.mem_of_getElem? (i := 12) rfl)) (inU_6 _ (List.mem_of_getElem? (i := 5) rfl)) (inU_27 _ (List.mem_of_getElem? (i := 13) rfl)) rfl rfl (by decide +kernel) ⟨Nat.le_of_ble_eq_true rfl, Nat.le_of_ble_eq_true rfl⟩) rfl hl.1 rfl (Nat.le_of_ble_eq_true rfl) dL_counted_60 ⟨(by first | exact Nat.le_of_ble_eq_true rfl | (show _ ≤ (_ : Nat); simp only [headSpec]; omega)), (by first | exact Nat.le_of_ble_eq_true rfl | (show _ ≤ (_ : Nat); simp only [headSpec]; omega))⟩) (fun r_60 ad1 ct1 H locs hp X => ?_)
            obtain ⟨rfl, ha_, hb_⟩ := hp
            rw [← ha_, hb_] at X
            refine lv_if_ne (tgt := 77) hx hb dL_counted_63 (by decide) (fun c_63 => ?_) (fun c_63 => ?_)
            · have c_63 : (gone M i) = true := bI_1 c_63
              have s_63 := c_63
              refine lv_iconst (v := 0) hx hb dL_counted_77 (by decide) ?_
              exact W.eq (congrArg (fun z => F0 m 78 ls (.int z :: [.int (nI (noN M (kdS M a) i))])) (bI_f (by simp [cnts, s_53, s_63]))) (M_78 _ _ X)
            · have c_63 : (gone M i) = false := bI_0 c_63
              have s_63 := c_63
              refine lv_aload_n hx hb dL_counted_66 rfl (lv_at hl 3 rfl) ?_
              refine lv_iload hx hb dL_counted_67 (lv_at hl 1 rfl) ?_
              refine k_ild (ad := ad) (k := 17) (i := 0) Z X ct_17_0 (vp_in_nI (n := i) (by first | assumption | omega) (by decide)) dL_counted_69 ?_
              refine lv_topi (fun x_69 e_69 => ?_)
              obtain rfl : x_69 = T.1 1 i := e_69.trans (by first | (simp only [nI_clamp (show i < 2 ^ 31 by omega)]; done) | rfl | (simp only [nI_clamp (show i < 2 ^ 31 by omega)]; rfl) | (simp only [nI_clamp (show i < 2 ^ 31 by omega)]; simp [sI, sN]; done))
              refine lv_topi (fun x_69 e_69 => ?_)
              obtain rfl : x_69 = M.1 1 i := e_69.trans (hT.u (by omega))
              refine lv_if_le (tgt := 77) hx hb dL_counted_70 (by decide) (fun c_70 => ?_) (fun c_70 => ?_)
              · have s_70 : M.1 1 i = 0 := (hT.rk (by omega)).mp c_70
                refine lv_iconst (v := 0) hx hb dL_counted_77 (by decide) ?_
                exact W.eq (congrArg (fun z => F0 m 78 ls (.int z :: [.int (nI (noN M (kdS M a) i))])) (bI_f (by simp [cnts, s_53, s_63, s_70]))) (M_78 _ _ X)
              · have s_70 : ¬ M.1 1 i = 0 := fun z => c_70 ((hT.rk (by omega)).mpr z)
                refine lv_iconst (v := 1) hx hb dL_counted_73 (by decide) ?_
                refine lv_goto (tgt := 78) hx hb dL_counted_74 (by decide) ?_
                exact W.eq (congrArg (fun z => F0 m 78 ls (.int z :: [.int (nI (noN M (kdS M a) i))])) (bI_t (by simp [cnts, s_53, s_63, s_70]))) (M_78 _ _ X)
        · exact absurd c_31 (by decide)
  exact LOOP_6 (M.2 0 0 + 1) 0 (Nat.zero_le _) (by omega) _ _ _ X (lv_sub hl [0, 1, 2, 3, 4, 5, 6] rfl)
