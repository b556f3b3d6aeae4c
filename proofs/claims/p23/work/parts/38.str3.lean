/-! TEXT: String out of the builder; its length and signs -/
theorem kmin2 {a b : Nat} (ha : a < 2 ^ 31) (h : b ≤ a) (hb : b < 2 ^ 31) : (if nI b < nI a then nI b else nI a) = nI b := by
  by_cases e : b < a
  · exact if_pos ((nI_ltI hb ha).mpr e)
  · rw [show a = b by omega, if_neg (fun z => by have := (nI_ltI hb hb).mp z; omega)]
theorem ch_and : ∀ k, k < 128 → nI k &&& 255 = nI k ∧ (((nI k).toUInt32 % 65536).toInt32 = nI k) := by decide +kernel
section KSO
variable {R : Room} {s : State} {args : Array Value} {own : String}
variable {rm : Room} {mc ms index n maxL : Nat} {x y : MethodName} {bytes : ByteArray} {ret : Option FieldType} {C owner : String}
theorem k_cwO (n : Nat) (ht : ∀ w ∈ wsL_law, w.before args s = true) (hl : Cond.methodLink own index x ∈ wsL_law) (hsm : Cond.sameMethod x.cls owner x.name x.desc ∈ wsL_law) (hi0 : Cond.instanceMethod ⟨owner, x.name, x.desc⟩ ∈ wsL_law) (hse : Cond.selects C x y ∈ wsL_law) (hi : Cond.instanceMethod y ∈ wsL_law) (hini : Cond.initialized y.cls ∈ wsL_law) (hc : Cond.code y bytes maxL ret ∈ wsL_law) {b0 : ByteArray} {m0 : Nat} {r0 : Option FieldType} (h0 : Cond.code ⟨owner, x.name, x.desc⟩ b0 m0 r0 ∈ wsL_law) (hrc : rm.cells = mc) (hrs : rm.slots = ms)
    (hd : owner ≠ "java/lang/invoke/MethodHandle" ∧ owner ≠ "java/lang/invoke/VarHandle" ∧ (parseMethodDescriptor x.desc).map (fun d => d.parameters.length) = some n) (hR : rm.frames + 1 ≤ R.frames ∧ 8 + (maxL + 11) + rm.locals ≤ R.locals) : va_CU R s args own C owner index x y bytes maxL ret (Cond.code y bytes maxL ret :: wsL_law) rm mc ms n := by
  refine va_cwO n ht (fun w hw => ?_) rfl hrc hrs h0 hd hR
  have hg := k_goodIn hc
  unfold va_wsO at hw
  rcases List.mem_append.mp hw with h | h
  · simp only [List.mem_cons, List.not_mem_nil, or_false] at h
    rcases h with rfl | rfl | rfl | rfl | rfl | rfl
    · exact hg _ (List.mem_cons_of_mem _ hl)
    · exact hg _ (List.mem_cons_of_mem _ hsm)
    · exact hg _ (List.mem_cons_of_mem _ hi0)
    · exact hg _ (List.mem_cons_of_mem _ hse)
    · exact hg _ (List.mem_cons_of_mem _ hi)
    · exact hg _ (List.mem_cons_of_mem _ hini)
  · exact hg _ h
end KSO
theorem cup_sw2 {ct : kCt} {k i k' i' : Nat} {A B : va_E} (h : ¬ (k = k' ∧ i = i') := by simp) : cup (cup ct k i A) k' i' B = cup (cup ct k' i' B) k i A := by
  funext a b
  by_cases h1 : a = k ∧ b = i
  · have h2 : ¬ (a = k' ∧ b = i') := fun z => h ⟨h1.1.symm.trans z.1, h1.2.symm.trans z.2⟩
    rw [cup_n h2, h1.1, h1.2, cup_s, cup_s]
  · by_cases h2 : a = k' ∧ b = i'
    · rw [cup_n h1, h2.1, h2.2, cup_s, cup_s]
    · rw [cup_n h1, cup_n h2, cup_n h1, cup_n h2]
theorem ch_nar : ∀ k, k < 128 → narrow .char (.int (nI k)) = .int (nI k) := by decide +kernel
theorem dJ7_checkLength_df160_0 : decode cJ7_checkLength_df160 0 = .ok (.iload_n 1, 1) := by decide +kernel
theorem dJ7_checkLength_df160_1 : decode cJ7_checkLength_df160 1 = .ok (.iload_n 0, 1) := by decide +kernel
theorem dJ7_checkLength_df160_2 : decode cJ7_checkLength_df160 2 = .ok (.if_icmp .ge 35, 3) := by decide +kernel
theorem dJ7_checkLength_df160_5 : decode cJ7_checkLength_df160 5 = .ok (.new 43, 3) := by decide +kernel
theorem dJ7_checkLength_df160_8 : decode cJ7_checkLength_df160 8 = .ok (.dup, 1) := by decide +kernel
theorem dJ7_checkLength_df160_9 : decode cJ7_checkLength_df160 9 = .ok (.new 45, 3) := by decide +kernel
theorem dJ7_checkLength_df160_12 : decode cJ7_checkLength_df160 12 = .ok (.dup, 1) := by decide +kernel
theorem dJ7_checkLength_df160_13 : decode cJ7_checkLength_df160 13 = .ok (.invokespecial 47, 3) := by decide +kernel
theorem dJ7_checkLength_df160_16 : decode cJ7_checkLength_df160 16 = .ok (.iload_n 0, 1) := by decide +kernel
theorem dJ7_checkLength_df160_17 : decode cJ7_checkLength_df160 17 = .ok (.invokevirtual 54, 3) := by decide +kernel
theorem dJ7_checkLength_df160_20 : decode cJ7_checkLength_df160 20 = .ok (.ldc_w 337, 3) := by decide +kernel
theorem dJ7_checkLength_df160_23 : decode cJ7_checkLength_df160 23 = .ok (.invokevirtual 50, 3) := by decide +kernel
theorem dJ7_checkLength_df160_26 : decode cJ7_checkLength_df160 26 = .ok (.iload_n 1, 1) := by decide +kernel
theorem dJ7_checkLength_df160_27 : decode cJ7_checkLength_df160 27 = .ok (.invokevirtual 54, 3) := by decide +kernel
theorem dJ7_checkLength_df160_30 : decode cJ7_checkLength_df160 30 = .ok (.invokevirtual 61, 3) := by decide +kernel
theorem dJ7_checkLength_df160_33 : decode cJ7_checkLength_df160 33 = .ok (.invokespecial 65, 3) := by decide +kernel
theorem dJ7_checkLength_df160_36 : decode cJ7_checkLength_df160 36 = .ok (.athrow, 1) := by decide +kernel
theorem dJ7_checkLength_df160_37 : decode cJ7_checkLength_df160 37 = .ok (.return_, 1) := by decide +kernel
set_option maxHeartbeats 4000000 in
set_option maxRecDepth 100000 in
theorem c_J7_checkLength_df160 (l : Launch) (E : State) (G : kG) (ad : kAd) (ct : kCt) (a b : Nat) (hab : a ≤ b) (hb9 : b < 2 ^ 31) : Met l yJ7_checkLength_df160 (.code yJ7_checkLength_df160 cJ7_checkLength_df160 2 none :: wsL_law) ({ frames := 1, cells := 0, slots := 0, locals := 30 } : Room) (va_Pc [.int (nI a), .int (nI b)] (kPre E G ad ct)) (kQv E G (fun ad1 ct1 => ad = ad1 ∧ ct1 = ct)) 0 0 (kB E.heap.size) := by
  refine Met.ofW (cc := cJ7_checkLength_df160) (maxL := 2) (ret := none) (by decide) rfl ?_
  intro p e s m args below meth c s₁ B hml hv
  obtain ⟨rfl, hM, hK, hW0⟩ := hv
  have hlocks := B.notSynchronized
  have hr := B.returns
  have Z : kZ p m c cJ7_checkLength_df160 2 s _ wsL_law RJ7 E G := ⟨⟨B.exec, B.bytes, hml, findClass_of_methodNamed B.named, fun w h => atoms_spec (ws := .code yJ7_checkLength_df160 cJ7_checkLength_df160 2 none :: wsL_law) B.pre w (List.mem_cons_of_mem _ h)⟩, hM, hK⟩
  have hx := Z.1.1
  have hb := Z.1.2.1
  have X := kX.of hW0
  have hl := lv_entry ([.int (nI a), .int (nI b)]) (n := 2) (Nat.le_of_ble_eq_true rfl)
  rw [lg_entry_eq]
  generalize (lg_sl ([.int (nI a), .int (nI b)]) ++ List.replicate (2 - (lg_sl ([.int (nI a), .int (nI b)])).length) Slot.unset).toArray = ls at hl ⊢
  have hl : lv_has ls 2 [(0, .int (nI a)), (1, .int (nI b))] := hl
  refine lv_iload_n hx hb dJ7_checkLength_df160_0 rfl (lv_at hl 1 rfl) ?_
  refine lv_iload_n hx hb dJ7_checkLength_df160_1 rfl (lv_at hl 0 rfl) ?_
  refine lv_icmp_ge (tgt := 37) hx hb dJ7_checkLength_df160_2 (by decide) (fun c_2 => ?_) (fun c_2 => ?_)
  · have c_2 : a ≤ b := (nI_leI (a := a) (b := b) (by omega) (by omega)).mp c_2
    exact k_vret Z X hr hlocks (Nat.le_of_ble_eq_true rfl) (Nat.le_of_ble_eq_true rfl) dJ7_checkLength_df160_37 ⟨rfl, rfl⟩
  · have c_2 : ¬ a ≤ b := fun h => c_2 ((nI_leI (a := a) (b := b) (by omega) (by omega)).mpr h)
    exact absurd hab c_2
theorem dJ7_copyOfRangeByte_39247_0 : decode cJ7_copyOfRangeByte_39247 0 = .ok (.iload_n 1, 1) := by decide +kernel
theorem dJ7_copyOfRangeByte_39247_1 : decode cJ7_copyOfRangeByte_39247 1 = .ok (.iload_n 2, 1) := by decide +kernel
theorem dJ7_copyOfRangeByte_39247_2 : decode cJ7_copyOfRangeByte_39247 2 = .ok (.invokestatic 343, 3) := by decide +kernel
theorem dJ7_copyOfRangeByte_39247_5 : decode cJ7_copyOfRangeByte_39247 5 = .ok (.iload_n 2, 1) := by decide +kernel
theorem dJ7_copyOfRangeByte_39247_6 : decode cJ7_copyOfRangeByte_39247 6 = .ok (.iload_n 1, 1) := by decide +kernel
theorem dJ7_copyOfRangeByte_39247_7 : decode cJ7_copyOfRangeByte_39247 7 = .ok (.isub, 1) := by decide +kernel
theorem dJ7_copyOfRangeByte_39247_8 : decode cJ7_copyOfRangeByte_39247 8 = .ok (.istore_n 3, 1) := by decide +kernel
theorem dJ7_copyOfRangeByte_39247_9 : decode cJ7_copyOfRangeByte_39247 9 = .ok (.iload_n 3, 1) := by decide +kernel
theorem dJ7_copyOfRangeByte_39247_10 : decode cJ7_copyOfRangeByte_39247 10 = .ok (.newarray .byte, 2) := by decide +kernel
theorem dJ7_copyOfRangeByte_39247_12 : decode cJ7_copyOfRangeByte_39247 12 = .ok (.astore 4, 2) := by decide +kernel
theorem dJ7_copyOfRangeByte_39247_14 : decode cJ7_copyOfRangeByte_39247 14 = .ok (.aload_n 0, 1) := by decide +kernel
theorem dJ7_copyOfRangeByte_39247_15 : decode cJ7_copyOfRangeByte_39247 15 = .ok (.iload_n 1, 1) := by decide +kernel
theorem dJ7_copyOfRangeByte_39247_16 : decode cJ7_copyOfRangeByte_39247 16 = .ok (.aload 4, 2) := by decide +kernel
theorem dJ7_copyOfRangeByte_39247_18 : decode cJ7_copyOfRangeByte_39247 18 = .ok (.iconst 0, 1) := by decide +kernel
theorem dJ7_copyOfRangeByte_39247_19 : decode cJ7_copyOfRangeByte_39247 19 = .ok (.aload_n 0, 1) := by decide +kernel
theorem dJ7_copyOfRangeByte_39247_20 : decode cJ7_copyOfRangeByte_39247 20 = .ok (.arraylength, 1) := by decide +kernel
theorem dJ7_copyOfRangeByte_39247_21 : decode cJ7_copyOfRangeByte_39247 21 = .ok (.iload_n 1, 1) := by decide +kernel
theorem dJ7_copyOfRangeByte_39247_22 : decode cJ7_copyOfRangeByte_39247 22 = .ok (.isub, 1) := by decide +kernel
theorem dJ7_copyOfRangeByte_39247_23 : decode cJ7_copyOfRangeByte_39247 23 = .ok (.iload_n 3, 1) := by decide +kernel
theorem dJ7_copyOfRangeByte_39247_24 : decode cJ7_copyOfRangeByte_39247 24 = .ok (.invokestatic 304, 3) := by decide +kernel
theorem dJ7_copyOfRangeByte_39247_27 : decode cJ7_copyOfRangeByte_39247 27 = .ok (.invokestatic 150, 3) := by decide +kernel
theorem dJ7_copyOfRangeByte_39247_30 : decode cJ7_copyOfRangeByte_39247 30 = .ok (.aload 4, 2) := by decide +kernel
theorem dJ7_copyOfRangeByte_39247_32 : decode cJ7_copyOfRangeByte_39247 32 = .ok (.areturn, 1) := by decide +kernel
set_option maxHeartbeats 4000000 in
set_option maxRecDepth 100000 in
theorem c_J7_copyOfRangeByte_39247 (l : Launch) (E : State) (G : kG) (ad : kAd) (ct : kCt) (hE : kE l E G) (tk ti : Nat) (htk : tk ≠ 96) (w : List Nat) (hl16 : w.length ≤ 16) (hl9 : ∀ c ∈ w, c < 128) (hb2 : ct 96 0 = some (.inl (G.2.1, 16, .inl (txF w)))) : Met l yJ7_copyOfRangeByte_39247 (.code yJ7_copyOfRangeByte_39247 cJ7_copyOfRangeByte_39247 5 (some (.array .byte)) :: wsL_law) ({ frames := 3, cells := 1, slots := 16, locals := 100 } : Room) (va_Pc [.ref (ad 96 0), .int 0, .int (nI w.length)] (kPre E G ad ct)) (kQq E G (fun r ad1 ct1 => ∃ z : Nat, r = some z ∧ ad1 = aup ad tk ti z ∧ ct1 = cup ct tk ti (.inl (G.2.1, w.length, .inl (txF w))))) 1 16 (kB E.heap.size) := by
  refine Met.ofW (cc := cJ7_copyOfRangeByte_39247) (maxL := 5) (ret := (some (.array .byte))) (by decide) rfl ?_
  intro p e s m args below meth c s₁ B hml hv
  obtain ⟨rfl, hM, hK, hW0⟩ := hv
  have hlocks := B.notSynchronized
  have hr := B.returns
  have Z : kZ p m c cJ7_copyOfRangeByte_39247 5 s _ wsL_law RJ7 E G := ⟨⟨B.exec, B.bytes, hml, findClass_of_methodNamed B.named, fun w h => atoms_spec (ws := .code yJ7_copyOfRangeByte_39247 cJ7_copyOfRangeByte_39247 5 (some (.array .byte)) :: wsL_law) B.pre w (List.mem_cons_of_mem _ h)⟩, hM, hK⟩
  have hx := Z.1.1
  have hb := Z.1.2.1
  have X := kX.of hW0
  have hl := lv_entry ([.ref (ad 96 0), .int 0, .int (nI w.length)]) (n := 5) (Nat.le_of_ble_eq_true rfl)
  rw [lg_entry_eq]
  generalize (lg_sl ([.ref (ad 96 0), .int 0, .int (nI w.length)]) ++ List.replicate (5 - (lg_sl ([.ref (ad 96 0), .int 0, .int (nI w.length)])).length) Slot.unset).toArray = ls at hl ⊢
  have hl : lv_has ls 5 [(0, .ref (ad 96 0)), (1, .int 0), (2, .int (nI w.length))] := hl
  refine lv_iload_n hx hb dJ7_copyOfRangeByte_39247_0 rfl (lv_at hl 1 rfl) ?_
  refine lv_iload_n hx hb dJ7_copyOfRangeByte_39247_1 rfl (lv_at hl 2 rfl) ?_
  refine k_Rv X (k_runS (As := [.int 0, .int (nI w.length)]) (rest := []) Z X (c_J7_checkLength_df160 l E G ad ct 0 w.length (Nat.zero_le _) (by omega)) (k_cwS 2 Z.1.2.2.2.2 (inU_22 _ (List.mem_of_getElem? (i := 22) rfl)) (inU_22 _ (List.mem_of_getElem? (i := 23) rfl)) (inU_4 _ (List.mem_of_getElem? (i := 18) rfl)) (inU_23 _ (List.mem_of_getElem? (i := 0) rfl)) rfl rfl (by decide +kernel) ⟨Nat.le_of_ble_eq_true rfl, Nat.le_of_ble_eq_true rfl⟩) rfl hl.1 rfl (Nat.le_of_ble_eq_true rfl) dJ7_copyOfRangeByte_39247_2 ⟨(by first | exact Nat.le_of_ble_eq_true rfl | (show _ ≤ (_ : Nat); simp only [headSpec]; omega)), (by first | exact Nat.le_of_ble_eq_true rfl | (show _ ≤ (_ : Nat); simp only [headSpec]; omega))⟩) (fun ad1 ct1 H locs hp X => ?_)
  obtain ⟨ha_, hb_⟩ := hp
  rw [← ha_, hb_] at X
  refine lv_iload_n hx hb dJ7_copyOfRangeByte_39247_5 rfl (lv_at hl 2 rfl) ?_
  refine lv_iload_n hx hb dJ7_copyOfRangeByte_39247_6 rfl (lv_at hl 1 rfl) ?_
  refine lv_isub hx hb dJ7_copyOfRangeByte_39247_7 ?_
  refine lv_topi (fun x_7 e_7 => ?_)
  obtain rfl : x_7 = nI w.length := e_7.trans (Int32.sub_zero _)
  refine lv_istore_n (lv' := [(3, .int (nI w.length)), (0, .ref (ad 96 0)), (1, .int 0), (2, .int (nI w.length))]) hx hb dJ7_copyOfRangeByte_39247_8 rfl hl (by decide) rfl (fun ls hl => ?_)
  refine lv_iload_n hx hb dJ7_copyOfRangeByte_39247_9 rfl (lv_at hl 0 rfl) ?_
  refine k_newa (atype := .byte) (ty := .byte) (t0 := 0) (N' := w.length) (a0 := (w.length, .inl (fun _ => 0))) tk ti Z X (inU_16 _ (List.mem_of_getElem? (i := 2) rfl)) rfl rfl (fun h => h) rfl (nI_pos (by omega)) (nI_clamp (by omega)) (by show w.length * 1 ≤ _; omega) (by first | exact Nat.le_of_ble_eq_true rfl | (show _ ≤ (_ : Nat); simp only [headSpec]; omega)) (by first | exact Nat.le_of_ble_eq_true rfl | (show _ ≤ (_ : Nat); simp only [headSpec]; omega)) dJ7_copyOfRangeByte_39247_10 (fun z H X => ?_)
  obtain ⟨adN, hadN⟩ : ∃ y, y = aup ad tk ti z := ⟨_, rfl⟩
  obtain ⟨ctN, hctN⟩ : ∃ y, y = cup ct tk ti (.inl (G.2.1, w.length, .inl (fun _ => 0))) := ⟨_, rfl⟩
  rw [← hadN, ← hctN] at X
  have eN : adN tk ti = z := by rw [hadN]; exact aup_s
  subst eN
  have e0 : adN 96 0 = ad 96 0 := by rw [hadN]; exact aup_n (fun z => htk z.1.symm)
  rw [← e0] at hl
  have hN : ctN tk ti = some (.inl (G.2.1, w.length, .inl (fun _ => 0))) := by rw [hctN]; exact cup_s
  have hb2 : ctN 96 0 = some (.inl (G.2.1, 16, .inl (txF w))) := by rw [hctN]; exact (cup_n (fun z => htk z.1.symm)).trans hb2
  refine lv_astore (lv' := [(4, .ref (adN tk ti)), (3, .int (nI w.length)), (0, .ref (adN 96 0)), (1, .int 0), (2, .int (nI w.length))]) hx hb dJ7_copyOfRangeByte_39247_12 hl (by decide) rfl (fun ls hl => ?_)
  refine lv_aload_n hx hb dJ7_copyOfRangeByte_39247_14 rfl (lv_at hl 2 rfl) ?_
  refine lv_iload_n hx hb dJ7_copyOfRangeByte_39247_15 rfl (lv_at hl 3 rfl) ?_
  refine lv_aload hx hb dJ7_copyOfRangeByte_39247_16 (lv_at hl 0 rfl) ?_
  refine lv_iconst (v := 0) hx hb dJ7_copyOfRangeByte_39247_18 (by decide) ?_
  refine lv_aload_n hx hb dJ7_copyOfRangeByte_39247_19 rfl (lv_at hl 2 rfl) ?_
  refine k_len (ad := adN) (k := 96) (i := 0) (t0 := 0) (v := nI 16) Z X hb2 rfl rfl dJ7_copyOfRangeByte_39247_20 ?_
  refine lv_iload_n hx hb dJ7_copyOfRangeByte_39247_21 rfl (lv_at hl 3 rfl) ?_
  refine lv_isub hx hb dJ7_copyOfRangeByte_39247_22 ?_
  refine lv_topi (fun x_22 e_22 => ?_)
  obtain rfl : x_22 = nI 16 := e_22.trans (Int32.sub_zero _)
  refine lv_iload_n hx hb dJ7_copyOfRangeByte_39247_23 rfl (lv_at hl 1 rfl) ?_
  refine va_mmin hx hb (Z.1.2.2.1.trans hl.1.symm) Z.1.2.2.2.1 (Z.1.2.2.2.2 _ (inU_5 _ (List.mem_of_getElem? (i := 5) rfl))) (Z.1.2.2.2.2 _ (inU_5 _ (List.mem_of_getElem? (i := 6) rfl))) (Z.1.2.2.2.2 _ (inU_4 _ (List.mem_of_getElem? (i := 4) rfl))) (Z.1.2.2.2.2 _ (inU_5 _ (List.mem_of_getElem? (i := 7) rfl))) (Nat.le_of_ble_eq_true rfl) (Nat.le_of_ble_eq_true rfl) (by show _ ≤ (_ : Nat); simp only [headSpec]; omega) (by show _ ≤ (_ : Nat); simp only [headSpec]; omega) dJ7_copyOfRangeByte_39247_24 ?_
  refine lv_topi (fun x_24 e_24 => ?_)
  obtain rfl : x_24 = nI w.length := e_24.trans (kmin2 (by decide) hl16 (by omega))
  refine k_copyb Z X (inU_5 _ (List.mem_of_getElem? (i := 8) rfl)) (inU_5 _ (List.mem_of_getElem? (i := 9) rfl)) (inU_5 _ (List.mem_of_getElem? (i := 10) rfl)) (inU_5 _ (List.mem_of_getElem? (i := 11) rfl)) hl.1 hb2 hN (by omega) hl16 (Nat.le_refl _) (fun j _ => tx_fit hl9 j) (Nat.le_of_ble_eq_true rfl) ⟨(Nat.le_of_ble_eq_true rfl), (Nat.le_of_ble_eq_true rfl)⟩ dJ7_copyOfRangeByte_39247_27 (fun H locs X => ?_)
  refine lv_aload hx hb dJ7_copyOfRangeByte_39247_30 (lv_at hl 0 rfl) ?_
  exact k_aret (some (adN tk ti)) Z X hr hlocks (Or.inr ⟨_, rfl⟩) (by omega) (by omega) dJ7_copyOfRangeByte_39247_32 ⟨_, rfl, hadN, by rw [hctN, cup_cup, tx_cpy]⟩
theorem dJ7_copyOfRange_39247_0 : decode cJ7_copyOfRange_39247 0 = .ok (.iload_n 1, 1) := by decide +kernel
theorem dJ7_copyOfRange_39247_1 : decode cJ7_copyOfRange_39247 1 = .ok (.ifCond .ne 9, 3) := by decide +kernel
theorem dJ7_copyOfRange_39247_4 : decode cJ7_copyOfRange_39247 4 = .ok (.iload_n 2, 1) := by decide +kernel
theorem dJ7_copyOfRange_39247_5 : decode cJ7_copyOfRange_39247 5 = .ok (.aload_n 0, 1) := by decide +kernel
theorem dJ7_copyOfRange_39247_6 : decode cJ7_copyOfRange_39247 6 = .ok (.arraylength, 1) := by decide +kernel
theorem dJ7_copyOfRange_39247_7 : decode cJ7_copyOfRange_39247 7 = .ok (.if_icmp .eq 10, 3) := by decide +kernel
theorem dJ7_copyOfRange_39247_10 : decode cJ7_copyOfRange_39247 10 = .ok (.aload_n 0, 1) := by decide +kernel
theorem dJ7_copyOfRange_39247_11 : decode cJ7_copyOfRange_39247 11 = .ok (.iload_n 1, 1) := by decide +kernel
theorem dJ7_copyOfRange_39247_12 : decode cJ7_copyOfRange_39247 12 = .ok (.iload_n 2, 1) := by decide +kernel
theorem dJ7_copyOfRange_39247_13 : decode cJ7_copyOfRange_39247 13 = .ok (.invokestatic 339, 3) := by decide +kernel
theorem dJ7_copyOfRange_39247_16 : decode cJ7_copyOfRange_39247 16 = .ok (.areturn, 1) := by decide +kernel
theorem dJ7_copyOfRange_39247_17 : decode cJ7_copyOfRange_39247 17 = .ok (.aload_n 0, 1) := by decide +kernel
theorem dJ7_copyOfRange_39247_18 : decode cJ7_copyOfRange_39247 18 = .ok (.invokevirtual 310, 3) := by decide +kernel
theorem dJ7_copyOfRange_39247_21 : decode cJ7_copyOfRange_39247 21 = .ok (.checkcast 311, 3) := by decide +kernel
theorem dJ7_copyOfRange_39247_24 : decode cJ7_copyOfRange_39247 24 = .ok (.areturn, 1) := by decide +kernel
set_option maxHeartbeats 4000000 in
set_option maxRecDepth 100000 in
theorem c_J7_copyOfRange_39247 (l : Launch) (E : State) (G : kG) (ad : kAd) (ct : kCt) (hE : kE l E G) (tk ti : Nat) (htk : tk ≠ 96) (w : List Nat) (hl16 : w.length ≤ 16) (hl9 : ∀ c ∈ w, c < 128) (hb2 : ct 96 0 = some (.inl (G.2.1, 16, .inl (txF w)))) : Met l yJ7_copyOfRange_39247 (.code yJ7_copyOfRange_39247 cJ7_copyOfRange_39247 3 (some (.array .byte)) :: wsL_law) ({ frames := 4, cells := 1, slots := 16, locals := 140 } : Room) (va_Pc [.ref (ad 96 0), .int 0, .int (nI w.length)] (kPre E G ad ct)) (kQq E G (fun r ad1 ct1 => ∃ z : Nat, r = some z ∧ ad1 = aup ad tk ti z ∧ ct1 = cup ct tk ti (.inl (G.2.1, w.length, .inl (txF w))))) 1 16 (kB E.heap.size) := by
  refine Met.ofW (cc := cJ7_copyOfRange_39247) (maxL := 3) (ret := (some (.array .byte))) (by decide) rfl ?_
  intro p e s m args below meth c s₁ B hml hv
  obtain ⟨rfl, hM, hK, hW0⟩ := hv
  have hlocks := B.notSynchronized
  have hr := B.returns
  have Z : kZ p m c cJ7_copyOfRange_39247 3 s _ wsL_law RJ7 E G := ⟨⟨B.exec, B.bytes, hml, findClass_of_methodNamed B.named, fun w h => atoms_spec (ws := .code yJ7_copyOfRange_39247 cJ7_copyOfRange_39247 3 (some (.array .byte)) :: wsL_law) B.pre w (List.mem_cons_of_mem _ h)⟩, hM, hK⟩
  have hx := Z.1.1
  have hb := Z.1.2.1
  have X := kX.of hW0
  have hl := lv_entry ([.ref (ad 96 0), .int 0, .int (nI w.length)]) (n := 3) (Nat.le_of_ble_eq_true rfl)
  rw [lg_entry_eq]
  generalize (lg_sl ([.ref (ad 96 0), .int 0, .int (nI w.length)]) ++ List.replicate (3 - (lg_sl ([.ref (ad 96 0), .int 0, .int (nI w.length)])).length) Slot.unset).toArray = ls at hl ⊢
  have hl : lv_has ls 3 [(0, .ref (ad 96 0)), (1, .int 0), (2, .int (nI w.length))] := hl
  refine lv_iload_n hx hb dJ7_copyOfRange_39247_0 rfl (lv_at hl 1 rfl) ?_
  refine lv_if_ne (tgt := 10) hx hb dJ7_copyOfRange_39247_1 (by decide) (fun c_1 => ?_) (fun c_1 => ?_)
  · exact absurd c_1 (by decide)
  · refine lv_iload_n hx hb dJ7_copyOfRange_39247_4 rfl (lv_at hl 2 rfl) ?_
    refine lv_aload_n hx hb dJ7_copyOfRange_39247_5 rfl (lv_at hl 0 rfl) ?_
    refine k_len (ad := ad) (k := 96) (i := 0) (t0 := 0) (v := nI 16) Z X hb2 rfl rfl dJ7_copyOfRange_39247_6 ?_
    refine lv_icmp_eq (tgt := 17) hx hb dJ7_copyOfRange_39247_7 (by decide) (fun c_7 => ?_) (fun c_7 => ?_)
    · have c_7 : w.length = 16 := (nI_eq (a := w.length) (b := 16) (by omega) (by omega)).mp c_7
      refine lv_aload_n hx hb dJ7_copyOfRange_39247_17 rfl (lv_at hl 0 rfl) ?_
      refine k_clone tk ti Z X (inU_17 _ (List.mem_of_getElem? (i := 18) rfl)) (inU_17 _ (List.mem_of_getElem? (i := 19) rfl)) (inU_17 _ (List.mem_of_getElem? (i := 20) rfl)) (inU_17 _ (List.mem_of_getElem? (i := 21) rfl)) (inU_17 _ (List.mem_of_getElem? (i := 22) rfl)) (hE.word Z.2.1 (List.mem_of_getElem? (i := 12) rfl)) hl.1 hb2 (fun j _ => tx_fit hl9 j) (Nat.le_of_ble_eq_true rfl) ⟨(Nat.le_of_ble_eq_true rfl), (Nat.le_of_ble_eq_true rfl)⟩ (Nat.le_of_ble_eq_true rfl) (Nat.le_of_ble_eq_true rfl) dJ7_copyOfRange_39247_18 (fun z H X => ?_)
      obtain ⟨adN, hadN⟩ : ∃ y, y = aup ad tk ti z := ⟨_, rfl⟩
      obtain ⟨ctN, hctN⟩ : ∃ y, y = cup ct tk ti (.inl (G.2.1, 16, .inl (txF w))) := ⟨_, rfl⟩
      rw [← hadN, ← hctN] at X
      have eN : adN tk ti = z := by rw [hadN]; exact aup_s
      subst eN
      have hN : ctN tk ti = some (.inl (G.2.1, 16, .inl (txF w))) := by rw [hctN]; exact cup_s
      refine va_castA hx hb Z.1.2.2.2.1 (Z.1.2.2.2.2 _ (inU_17 _ (List.mem_of_getElem? (i := 23) rfl))) (X.1.at hN) 0 rfl (byte_nm Z.2.2) dJ7_copyOfRange_39247_21 ?_
      exact k_aret (some (adN tk ti)) Z X hr hlocks (Or.inr ⟨_, rfl⟩) (Nat.le_of_ble_eq_true rfl) (Nat.le_of_ble_eq_true rfl) dJ7_copyOfRange_39247_24 ⟨_, rfl, hadN, by rw [hctN, c_7]⟩
    · have c_7 : ¬ w.length = 16 := fun h => c_7 ((nI_eq (a := w.length) (b := 16) (by omega) (by omega)).mpr h)
      refine lv_aload_n hx hb dJ7_copyOfRange_39247_10 rfl (lv_at hl 0 rfl) ?_
      refine lv_iload_n hx hb dJ7_copyOfRange_39247_11 rfl (lv_at hl 1 rfl) ?_
      refine lv_iload_n hx hb dJ7_copyOfRange_39247_12 rfl (lv_at hl 2 rfl) ?_
      refine k_Rq X (k_runS (As := [.ref (ad 96 0), .int 0, .int (nI w.length)]) (rest := []) Z X (c_J7_copyOfRangeByte_39247 l E G ad ct hE tk ti htk w hl16 hl9 hb2) (k_cwS 3 Z.1.2.2.2.2 (inU_22 _ (List.mem_of_getElem? (i := 19) rfl)) (inU_22 _ (List.mem_of_getElem? (i := 20) rfl)) (inU_4 _ (List.mem_of_getElem? (i := 18) rfl)) (inU_22 _ (List.mem_of_getElem? (i := 21) rfl)) rfl rfl (by decide +kernel) ⟨Nat.le_of_ble_eq_true rfl, Nat.le_of_ble_eq_true rfl⟩) rfl hl.1 rfl (Nat.le_of_ble_eq_true rfl) dJ7_copyOfRange_39247_13 ⟨(by first | exact Nat.le_of_ble_eq_true rfl | (show _ ≤ (_ : Nat); simp only [headSpec]; omega)), (by first | exact Nat.le_of_ble_eq_true rfl | (show _ ≤ (_ : Nat); simp only [headSpec]; omega))⟩) (fun r_13 ad1 ct1 H locs hp X => ?_)
      obtain ⟨z, rfl, h1, h2⟩ := hp
      exact k_aret (some z) Z X hr hlocks (Or.inr ⟨_, rfl⟩) (Nat.le_of_ble_eq_true rfl) (Nat.le_of_ble_eq_true rfl) dJ7_copyOfRange_39247_16 ⟨z, rfl, h1, h2⟩
theorem dJ4_length_8abf5_0 : decode cJ4_length_8abf5 0 = .ok (.aload_n 0, 1) := by decide +kernel
theorem dJ4_length_8abf5_1 : decode cJ4_length_8abf5 1 = .ok (.invokespecial 343, 3) := by decide +kernel
theorem dJ4_length_8abf5_4 : decode cJ4_length_8abf5 4 = .ok (.ireturn, 1) := by decide +kernel
set_option maxHeartbeats 4000000 in
set_option maxRecDepth 100000 in
theorem c_J4_length_8abf5 (l : Launch) (E : State) (G : kG) (ad : kAd) (ct : kCt) (mb : Int32) (n : Nat) (hb0 : ct 97 0 = some (.inr (1, [.ref (ad 96 0), .int 0, .int mb, .int (nI n)]))) : Met l yJ4_length_8abf5 (.code yJ4_length_8abf5 cJ4_length_8abf5 1 (some .int) :: wsL_law) ({ frames := 3, cells := 0, slots := 0, locals := 70 } : Room) (va_Pc [.ref (ad 97 0)] (kPre E G ad ct)) (kQi E G (fun r ad1 ct1 => r = nI n ∧ ad = ad1 ∧ ct1 = ct)) 0 0 (kB E.heap.size) := by
  refine Met.ofW (cc := cJ4_length_8abf5) (maxL := 1) (ret := (some .int)) (by decide) rfl ?_
  intro p e s m args below meth c s₁ B hml hv
  obtain ⟨rfl, hM, hK, hW0⟩ := hv
  have hlocks := B.notSynchronized
  have hr := B.returns
  have Z : kZ p m c cJ4_length_8abf5 1 s _ wsL_law RJ4 E G := ⟨⟨B.exec, B.bytes, hml, findClass_of_methodNamed B.named, fun w h => atoms_spec (ws := .code yJ4_length_8abf5 cJ4_length_8abf5 1 (some .int) :: wsL_law) B.pre w (List.mem_cons_of_mem _ h)⟩, hM, hK⟩
  have hx := Z.1.1
  have hb := Z.1.2.1
  have X := kX.of hW0
  have hl := lv_entry ([.ref (ad 97 0)]) (n := 1) (Nat.le_of_ble_eq_true rfl)
  rw [lg_entry_eq]
  generalize (lg_sl ([.ref (ad 97 0)]) ++ List.replicate (1 - (lg_sl ([.ref (ad 97 0)])).length) Slot.unset).toArray = ls at hl ⊢
  have hl : lv_has ls 1 [(0, .ref (ad 97 0))] := hl
  refine lv_aload_n hx hb dJ4_length_8abf5_0 rfl (lv_at hl 0 rfl) ?_
  refine k_Ri X (k_runSU (ci := 1) (As := []) (rest := []) rfl Z X (c_J5_length_8abf5 l E G ad ct mb n hb0) (k_cwSU 0 Z.1.2.2.2.2 (inU_22 _ (List.mem_of_getElem? (i := 12) rfl)) (inU_22 _ (List.mem_of_getElem? (i := 7) rfl)) (inU_16 _ (List.mem_of_getElem? (i := 19) rfl)) (inU_22 _ (List.mem_of_getElem? (i := 13) rfl)) (inU_15 _ (List.mem_of_getElem? (i := 22) rfl)) (inU_22 _ (List.mem_of_getElem? (i := 14) rfl)) rfl rfl (by decide +kernel) ⟨Nat.le_of_ble_eq_true rfl, Nat.le_of_ble_eq_true rfl⟩) (k_recv Z X hb0 rfl) rfl hl.1 rfl (Nat.le_of_ble_eq_true rfl) dJ4_length_8abf5_1 ⟨(Nat.le_of_ble_eq_true rfl), (Nat.le_of_ble_eq_true rfl)⟩) (fun r_1 ad1 ct1 H locs hp X => ?_)
  obtain ⟨rfl, ha_, hb_⟩ := hp
  rw [← ha_, hb_] at X
  exact k_iret Z X hr hlocks rfl (Nat.le_of_ble_eq_true rfl) (Nat.le_of_ble_eq_true rfl) dJ4_length_8abf5_4 ⟨rfl, rfl, rfl⟩
theorem dJ0_init_db425_0 : decode cJ0_init_db425 0 = .ok (.aload_n 0, 1) := by decide +kernel
theorem dJ0_init_db425_1 : decode cJ0_init_db425 1 = .ok (.invokespecial 1, 3) := by decide +kernel
theorem dJ0_init_db425_4 : decode cJ0_init_db425 4 = .ok (.aload_n 1, 1) := by decide +kernel
theorem dJ0_init_db425_5 : decode cJ0_init_db425 5 = .ok (.invokevirtual 552, 3) := by decide +kernel
theorem dJ0_init_db425_8 : decode cJ0_init_db425 8 = .ok (.astore_n 3, 1) := by decide +kernel
theorem dJ0_init_db425_9 : decode cJ0_init_db425 9 = .ok (.aload_n 1, 1) := by decide +kernel
theorem dJ0_init_db425_10 : decode cJ0_init_db425 10 = .ok (.invokevirtual 549, 3) := by decide +kernel
theorem dJ0_init_db425_13 : decode cJ0_init_db425 13 = .ok (.istore 4, 2) := by decide +kernel
theorem dJ0_init_db425_15 : decode cJ0_init_db425 15 = .ok (.aload_n 1, 1) := by decide +kernel
theorem dJ0_init_db425_16 : decode cJ0_init_db425 16 = .ok (.invokevirtual 1047, 3) := by decide +kernel
theorem dJ0_init_db425_19 : decode cJ0_init_db425 19 = .ok (.ifCond .eq 22, 3) := by decide +kernel
theorem dJ0_init_db425_22 : decode cJ0_init_db425 22 = .ok (.aload_n 0, 1) := by decide +kernel
theorem dJ0_init_db425_23 : decode cJ0_init_db425 23 = .ok (.iconst 0, 1) := by decide +kernel
theorem dJ0_init_db425_24 : decode cJ0_init_db425 24 = .ok (.putfield 15, 3) := by decide +kernel
theorem dJ0_init_db425_27 : decode cJ0_init_db425 27 = .ok (.aload_n 0, 1) := by decide +kernel
theorem dJ0_init_db425_28 : decode cJ0_init_db425 28 = .ok (.aload_n 3, 1) := by decide +kernel
theorem dJ0_init_db425_29 : decode cJ0_init_db425 29 = .ok (.iconst 0, 1) := by decide +kernel
theorem dJ0_init_db425_30 : decode cJ0_init_db425 30 = .ok (.iload 4, 2) := by decide +kernel
theorem dJ0_init_db425_32 : decode cJ0_init_db425 32 = .ok (.invokestatic 54, 3) := by decide +kernel
theorem dJ0_init_db425_35 : decode cJ0_init_db425 35 = .ok (.putfield 9, 3) := by decide +kernel
theorem dJ0_init_db425_38 : decode cJ0_init_db425 38 = .ok (.goto 59, 3) := by decide +kernel
theorem dJ0_init_db425_41 : decode cJ0_init_db425 41 = .ok (.getstatic 38, 3) := by decide +kernel
theorem dJ0_init_db425_44 : decode cJ0_init_db425 44 = .ok (.ifCond .eq 35, 3) := by decide +kernel
theorem dJ0_init_db425_47 : decode cJ0_init_db425 47 = .ok (.aload_n 1, 1) := by decide +kernel
theorem dJ0_init_db425_48 : decode cJ0_init_db425 48 = .ok (.getfield 1048, 3) := by decide +kernel
theorem dJ0_init_db425_51 : decode cJ0_init_db425 51 = .ok (.ifCond .eq 28, 3) := by decide +kernel
theorem dJ0_init_db425_54 : decode cJ0_init_db425 54 = .ok (.aload_n 0, 1) := by decide +kernel
theorem dJ0_init_db425_55 : decode cJ0_init_db425 55 = .ok (.aload_n 3, 1) := by decide +kernel
theorem dJ0_init_db425_56 : decode cJ0_init_db425 56 = .ok (.iconst 0, 1) := by decide +kernel
theorem dJ0_init_db425_57 : decode cJ0_init_db425 57 = .ok (.iload 4, 2) := by decide +kernel
theorem dJ0_init_db425_59 : decode cJ0_init_db425 59 = .ok (.invokestatic 1051, 3) := by decide +kernel
theorem dJ0_init_db425_62 : decode cJ0_init_db425 62 = .ok (.putfield 9, 3) := by decide +kernel
theorem dJ0_init_db425_65 : decode cJ0_init_db425 65 = .ok (.aload_n 0, 1) := by decide +kernel
theorem dJ0_init_db425_66 : decode cJ0_init_db425 66 = .ok (.aload_n 0, 1) := by decide +kernel
theorem dJ0_init_db425_67 : decode cJ0_init_db425 67 = .ok (.getfield 9, 3) := by decide +kernel
theorem dJ0_init_db425_70 : decode cJ0_init_db425 70 = .ok (.iload 4, 2) := by decide +kernel
theorem dJ0_init_db425_72 : decode cJ0_init_db425 72 = .ok (.invokestatic 47, 3) := by decide +kernel
theorem dJ0_init_db425_75 : decode cJ0_init_db425 75 = .ok (.putfield 15, 3) := by decide +kernel
theorem dJ0_init_db425_78 : decode cJ0_init_db425 78 = .ok (.return_, 1) := by decide +kernel
theorem dJ0_init_db425_79 : decode cJ0_init_db425 79 = .ok (.aload_n 0, 1) := by decide +kernel
theorem dJ0_init_db425_80 : decode cJ0_init_db425 80 = .ok (.iconst 1, 1) := by decide +kernel
theorem dJ0_init_db425_81 : decode cJ0_init_db425 81 = .ok (.putfield 15, 3) := by decide +kernel
theorem dJ0_init_db425_84 : decode cJ0_init_db425 84 = .ok (.aload_n 0, 1) := by decide +kernel
theorem dJ0_init_db425_85 : decode cJ0_init_db425 85 = .ok (.aload_n 3, 1) := by decide +kernel
theorem dJ0_init_db425_86 : decode cJ0_init_db425 86 = .ok (.iconst 0, 1) := by decide +kernel
theorem dJ0_init_db425_87 : decode cJ0_init_db425 87 = .ok (.iload 4, 2) := by decide +kernel
theorem dJ0_init_db425_89 : decode cJ0_init_db425 89 = .ok (.iconst 1, 1) := by decide +kernel
theorem dJ0_init_db425_90 : decode cJ0_init_db425 90 = .ok (.ishl, 1) := by decide +kernel
theorem dJ0_init_db425_91 : decode cJ0_init_db425 91 = .ok (.invokestatic 54, 3) := by decide +kernel
theorem dJ0_init_db425_94 : decode cJ0_init_db425 94 = .ok (.putfield 9, 3) := by decide +kernel
theorem dJ0_init_db425_97 : decode cJ0_init_db425 97 = .ok (.return_, 1) := by decide +kernel
set_option maxHeartbeats 4000000 in
set_option maxRecDepth 100000 in
theorem c_J0_init_db425 (l : Launch) (E : State) (G : kG) (ad : kAd) (ct : kCt) (hE : kE l E G) (mb : Int32) (w : List Nat) (hl16 : w.length ≤ 16) (hl9 : ∀ c ∈ w, c < 128) (t : Nat) (hc : ct 10 t = some (.inr (0, [.null, .int 0, .int 0, .int 0]))) (hb0 : ct 97 0 = some (.inr (1, [.ref (ad 96 0), .int 0, .int mb, .int (nI w.length)]))) (hb2 : ct 96 0 = some (.inl (G.2.1, 16, .inl (txF w)))) : Met l yJ0_init_db425 (.code yJ0_init_db425 cJ0_init_db425 5 none :: wsL_law) ({ frames := 5, cells := 1, slots := 16, locals := 200 } : Room) (va_Pc [.ref (ad 10 t), .ref (ad 97 0), .null] (kPre E G ad ct)) (kQv E G (fun ad1 ct1 => ∃ z : Nat, ad1 = aup ad 11 t z ∧ ct1 = cup (cup ct 11 t (.inl (G.2.1, w.length, .inl (txF w)))) 10 t (.inr (0, [.ref z, .int 0, .int 0, .int 0])))) 1 16 (kB E.heap.size) := by
  refine Met.ofW (cc := cJ0_init_db425) (maxL := 5) (ret := none) (by decide) rfl ?_
  intro p e s m args below meth c s₁ B hml hv
  obtain ⟨rfl, hM, hK, hW0⟩ := hv
  have hlocks := B.notSynchronized
  have hr := B.returns
  have hin : meth.name = "<init>" := (name_of_methodNamed B.named B.method).1
  have Z : kZ p m c cJ0_init_db425 5 s _ wsL_law RJ0 E G := ⟨⟨B.exec, B.bytes, hml, findClass_of_methodNamed B.named, fun w h => atoms_spec (ws := .code yJ0_init_db425 cJ0_init_db425 5 none :: wsL_law) B.pre w (List.mem_cons_of_mem _ h)⟩, hM, hK⟩
  have hx := Z.1.1
  have hb := Z.1.2.1
  have X := kX.of hW0
  have hl := lv_entry ([.ref (ad 10 t), .ref (ad 97 0), .null]) (n := 5) (Nat.le_of_ble_eq_true rfl)
  rw [lg_entry_eq]
  generalize (lg_sl ([.ref (ad 10 t), .ref (ad 97 0), .null]) ++ List.replicate (5 - (lg_sl ([.ref (ad 10 t), .ref (ad 97 0), .null])).length) Slot.unset).toArray = ls at hl ⊢
  have hl : lv_has ls 5 [(0, .ref (ad 10 t)), (1, .ref (ad 97 0)), (2, .null)] := hl
  refine lv_aload_n hx hb dJ0_init_db425_0 rfl (lv_at hl 0 rfl) ?_
  refine k_objInit Z (inU_21 _ (List.mem_of_getElem? (i := 20) rfl)) (inU_1 _ (List.mem_of_getElem? (i := 13) rfl)) (inU_1 _ (List.mem_of_getElem? (i := 14) rfl)) hl.1 (Nat.le_of_ble_eq_true rfl) ⟨(Nat.le_of_ble_eq_true rfl), (Nat.le_of_ble_eq_true rfl)⟩ dJ0_init_db425_1 ?_
  refine lv_aload_n hx hb dJ0_init_db425_4 rfl (lv_at hl 1 rfl) ?_
  refine k_Rq X (k_runU (As := []) (rest := []) Z X (c_J5_getValue_6d5f1 l E G ad ct mb w.length hb0) (k_cwU (owner := "java/lang/AbstractStringBuilder") (x := ⟨"java/lang/AbstractStringBuilder", "getValue", "()[B"⟩) (C := RJ4) 0 Z.1.2.2.2.2 (inU_22 _ (List.mem_of_getElem? (i := 1) rfl)) (inU_22 _ (List.mem_of_getElem? (i := 2) rfl)) (inU_22 _ (List.mem_of_getElem? (i := 3) rfl)) (inU_22 _ (List.mem_of_getElem? (i := 4) rfl)) (inU_15 _ (List.mem_of_getElem? (i := 22) rfl)) (inU_22 _ (List.mem_of_getElem? (i := 5) rfl)) rfl rfl rfl (by decide +kernel) ⟨Nat.le_of_ble_eq_true rfl, Nat.le_of_ble_eq_true rfl⟩) (k_recv Z X hb0 rfl) rfl hl.1 rfl (Nat.le_of_ble_eq_true rfl) dJ0_init_db425_5 ⟨(Nat.le_of_ble_eq_true rfl), (Nat.le_of_ble_eq_true rfl)⟩) (fun r_5 ad1 ct1 H locs hp X => ?_)
  obtain ⟨rfl, ha_, hb_⟩ := hp
  rw [← ha_, hb_] at X
  refine lv_astore_n (lv' := [(3, .ref (ad 96 0)), (0, .ref (ad 10 t)), (1, .ref (ad 97 0)), (2, .null)]) hx hb dJ0_init_db425_8 rfl hl (by decide) rfl (fun ls hl => ?_)
  refine lv_aload_n hx hb dJ0_init_db425_9 rfl (lv_at hl 2 rfl) ?_
  refine k_Ri X (k_runU (As := []) (rest := []) Z X (c_J4_length_8abf5 l E G ad ct mb w.length hb0) (k_cwO (owner := "java/lang/AbstractStringBuilder") (x := ⟨"java/lang/AbstractStringBuilder", "length", "()I"⟩) (C := RJ4) 0 Z.1.2.2.2.2 (inU_22 _ (List.mem_of_getElem? (i := 6) rfl)) (inU_22 _ (List.mem_of_getElem? (i := 7) rfl)) (inU_22 _ (List.mem_of_getElem? (i := 8) rfl)) (inU_22 _ (List.mem_of_getElem? (i := 9) rfl)) (inU_22 _ (List.mem_of_getElem? (i := 10) rfl)) (inU_15 _ (List.mem_of_getElem? (i := 12) rfl)) (inU_22 _ (List.mem_of_getElem? (i := 11) rfl)) (inU_22 _ (List.mem_of_getElem? (i := 14) rfl)) rfl rfl (by decide +kernel) ⟨(Nat.le_of_ble_eq_true rfl), (Nat.le_of_ble_eq_true rfl)⟩) (k_recv Z X hb0 rfl) rfl hl.1 rfl (Nat.le_of_ble_eq_true rfl) dJ0_init_db425_10 ⟨(by first | exact Nat.le_of_ble_eq_true rfl | (show _ ≤ (_ : Nat); simp only [headSpec]; omega)), (by first | exact Nat.le_of_ble_eq_true rfl | (show _ ≤ (_ : Nat); simp only [headSpec]; omega))⟩) (fun r_10 ad1 ct1 H locs hp X => ?_)
  obtain ⟨rfl, ha_, hb_⟩ := hp
  rw [← ha_, hb_] at X
  refine lv_istore (lv' := [(4, .int (nI w.length)), (3, .ref (ad 96 0)), (0, .ref (ad 10 t)), (1, .ref (ad 97 0)), (2, .null)]) hx hb dJ0_init_db425_13 hl (by decide) rfl (fun ls hl => ?_)
  refine lv_aload_n hx hb dJ0_init_db425_15 rfl (lv_at hl 3 rfl) ?_
  refine k_Ri X (k_runU (As := []) (rest := []) Z X (c_J5_isLatin1_aae02 l E G ad ct hE mb w.length hb0) (k_cwU (owner := "java/lang/AbstractStringBuilder") (x := ⟨"java/lang/AbstractStringBuilder", "isLatin1", "()Z"⟩) (C := RJ4) 0 Z.1.2.2.2.2 (inU_22 _ (List.mem_of_getElem? (i := 15) rfl)) (inU_18 _ (List.mem_of_getElem? (i := 1) rfl)) (inU_18 _ (List.mem_of_getElem? (i := 2) rfl)) (inU_18 _ (List.mem_of_getElem? (i := 3) rfl)) (inU_15 _ (List.mem_of_getElem? (i := 22) rfl)) (inU_18 _ (List.mem_of_getElem? (i := 4) rfl)) rfl rfl rfl (by decide +kernel) ⟨Nat.le_of_ble_eq_true rfl, Nat.le_of_ble_eq_true rfl⟩) (k_recv Z X hb0 rfl) rfl hl.1 rfl (Nat.le_of_ble_eq_true rfl) dJ0_init_db425_16 ⟨(Nat.le_of_ble_eq_true rfl), (Nat.le_of_ble_eq_true rfl)⟩) (fun r_16 ad1 ct1 H locs hp X => ?_)
  obtain ⟨rfl, ha_, hb_⟩ := hp
  rw [← ha_, hb_] at X
  refine lv_if_eq (tgt := 41) hx hb dJ0_init_db425_19 (by decide) (fun c_19 => ?_) (fun c_19 => ?_)
  · exact absurd c_19 (by decide)
  · refine lv_aload_n hx hb dJ0_init_db425_22 rfl (lv_at hl 2 rfl) ?_
    refine lv_iconst (v := 0) hx hb dJ0_init_db425_23 (by decide) ?_
    refine k_putF (index := 15) (j := 1) (k := 10) (i := t) Z X hc inlJ0 tyJ0_ok nmJ0 rfl (by decide) (inU_21 _ (List.mem_of_getElem? (i := 21) rfl)) rfl hin rfl (Nat.le_of_ble_eq_true rfl) rfl rfl dJ0_init_db425_24 (fun H locs X => ?_)
    have X : kX E G s H locs ad (cup ct 10 t (.inr (0, [.null, .int 0, .int 0, .int 0]))) := kXz X rfl (by first | rfl | exact cup_cup)
    refine lv_aload_n hx hb dJ0_init_db425_27 rfl (lv_at hl 2 rfl) ?_
    refine lv_aload_n hx hb dJ0_init_db425_28 rfl (lv_at hl 1 rfl) ?_
    refine lv_iconst (v := 0) hx hb dJ0_init_db425_29 (by decide) ?_
    refine lv_iload hx hb dJ0_init_db425_30 (lv_at hl 0 rfl) ?_
    refine k_Rq X (k_runS (As := [.ref (ad 96 0), .int 0, .int (nI w.length)]) (rest := [.ref (ad 10 t)]) Z X (c_J7_copyOfRange_39247 l E G ad (cup ct 10 t (.inr (0, [.null, .int 0, .int 0, .int 0]))) hE 11 t (by decide) w hl16 hl9 ((cup_n (by simp)).trans hb2)) (k_cwS 3 Z.1.2.2.2.2 (inU_22 _ (List.mem_of_getElem? (i := 16) rfl)) (inU_22 _ (List.mem_of_getElem? (i := 17) rfl)) (inU_4 _ (List.mem_of_getElem? (i := 18) rfl)) (inU_22 _ (List.mem_of_getElem? (i := 18) rfl)) rfl rfl (by decide +kernel) ⟨Nat.le_of_ble_eq_true rfl, Nat.le_of_ble_eq_true rfl⟩) rfl hl.1 rfl (Nat.le_of_ble_eq_true rfl) dJ0_init_db425_32 ⟨(by first | exact Nat.le_of_ble_eq_true rfl | (show _ ≤ (_ : Nat); simp only [headSpec]; omega)), (by first | exact Nat.le_of_ble_eq_true rfl | (show _ ≤ (_ : Nat); simp only [headSpec]; omega))⟩) (fun r_32 ad1 ct1 H locs hp X => ?_)
    obtain ⟨z, rfl, h1, h2⟩ := hp
    obtain ⟨adN, hadN⟩ : ∃ y, y = aup ad 11 t z := ⟨_, rfl⟩
    rw [h1, h2, ← hadN] at X
    have eN : adN 11 t = z := by rw [hadN]; exact aup_s
    subst eN
    have e0 : adN 10 t = ad 10 t := by rw [hadN]; exact aup_n (by simp)
    have e1 : adN 97 0 = ad 97 0 := by rw [hadN]; exact aup_n (by simp)
    have e2 : adN 96 0 = ad 96 0 := by rw [hadN]; exact aup_n (by simp)
    rw [← e0, ← e1, ← e2] at hl
    refine W.eq (congrArg (fun y => F0 m 35 ls [.ref (adN 11 t), .ref y]) e0.symm) ?_
    have hc : cup (cup ct 10 t (.inr (0, [.null, .int 0, .int 0, .int 0]))) 11 t (.inl (G.2.1, w.length, .inl (txF w))) 10 t = some (.inr (0, [.null, .int 0, .int 0, .int 0])) := (cup_n (by simp)).trans cup_s
    refine k_putF (index := 9) (j := 0) (k := 10) (i := t) Z X hc inlJ0 tyJ0_ok nmJ0 rfl (by decide) (inU_21 _ (List.mem_of_getElem? (i := 22) rfl)) rfl hin rfl (Nat.le_of_ble_eq_true rfl) rfl rfl dJ0_init_db425_35 (fun H locs X => ?_)
    refine lv_goto (tgt := 97) hx hb dJ0_init_db425_38 (by decide) ?_
    exact k_vret Z X hr hlocks (Nat.le_of_ble_eq_true rfl) (Nat.le_of_ble_eq_true rfl) dJ0_init_db425_97 ⟨_, hadN, by rw [cup_sw (by simp), cup_cup, cup_sw2]; rfl⟩
theorem dJ0_init_81219_0 : decode cJ0_init_81219 0 = .ok (.aload_n 0, 1) := by decide +kernel
theorem dJ0_init_81219_1 : decode cJ0_init_81219 1 = .ok (.aload_n 1, 1) := by decide +kernel
theorem dJ0_init_81219_2 : decode cJ0_init_81219 2 = .ok (.aconst_null, 1) := by decide +kernel
theorem dJ0_init_81219_3 : decode cJ0_init_81219 3 = .ok (.invokespecial 489, 3) := by decide +kernel
theorem dJ0_init_81219_6 : decode cJ0_init_81219 6 = .ok (.return_, 1) := by decide +kernel
set_option maxHeartbeats 4000000 in
set_option maxRecDepth 100000 in
theorem c_J0_init_81219 (l : Launch) (E : State) (G : kG) (ad : kAd) (ct : kCt) (hE : kE l E G) (mb : Int32) (w : List Nat) (hl16 : w.length ≤ 16) (hl9 : ∀ c ∈ w, c < 128) (t : Nat) (hc : ct 10 t = some (.inr (0, [.null, .int 0, .int 0, .int 0]))) (hb0 : ct 97 0 = some (.inr (1, [.ref (ad 96 0), .int 0, .int mb, .int (nI w.length)]))) (hb2 : ct 96 0 = some (.inl (G.2.1, 16, .inl (txF w)))) : Met l yJ0_init_81219 (.code yJ0_init_81219 cJ0_init_81219 2 none :: wsL_law) ({ frames := 6, cells := 1, slots := 16, locals := 240 } : Room) (va_Pc [.ref (ad 10 t), .ref (ad 97 0)] (kPre E G ad ct)) (kQv E G (fun ad1 ct1 => ∃ z : Nat, ad1 = aup ad 11 t z ∧ ct1 = cup (cup ct 11 t (.inl (G.2.1, w.length, .inl (txF w)))) 10 t (.inr (0, [.ref z, .int 0, .int 0, .int 0])))) 1 16 (kB E.heap.size) := by
  refine Met.ofW (cc := cJ0_init_81219) (maxL := 2) (ret := none) (by decide) rfl ?_
  intro p e s m args below meth c s₁ B hml hv
  obtain ⟨rfl, hM, hK, hW0⟩ := hv
  have hlocks := B.notSynchronized
  have hr := B.returns
  have hin : meth.name = "<init>" := (name_of_methodNamed B.named B.method).1
  have Z : kZ p m c cJ0_init_81219 2 s _ wsL_law RJ0 E G := ⟨⟨B.exec, B.bytes, hml, findClass_of_methodNamed B.named, fun w h => atoms_spec (ws := .code yJ0_init_81219 cJ0_init_81219 2 none :: wsL_law) B.pre w (List.mem_cons_of_mem _ h)⟩, hM, hK⟩
  have hx := Z.1.1
  have hb := Z.1.2.1
  have X := kX.of hW0
  have hl := lv_entry ([.ref (ad 10 t), .ref (ad 97 0)]) (n := 2) (Nat.le_of_ble_eq_true rfl)
  rw [lg_entry_eq]
  generalize (lg_sl ([.ref (ad 10 t), .ref (ad 97 0)]) ++ List.replicate (2 - (lg_sl ([.ref (ad 10 t), .ref (ad 97 0)])).length) Slot.unset).toArray = ls at hl ⊢
  have hl : lv_has ls 2 [(0, .ref (ad 10 t)), (1, .ref (ad 97 0))] := hl
  refine lv_aload_n hx hb dJ0_init_81219_0 rfl (lv_at hl 0 rfl) ?_
  refine lv_aload_n hx hb dJ0_init_81219_1 rfl (lv_at hl 1 rfl) ?_
  refine lv_null hx hb dJ0_init_81219_2 ?_
  refine k_Rv X (k_runI (As := [.ref (ad 97 0), .null]) (rest := []) Z X (c_J0_init_db425 l E G ad ct hE mb w hl16 hl9 t hc hb0 hb2) (k_cwI 2 Z.1.2.2.2.2 (inU_21 _ (List.mem_of_getElem? (i := 17) rfl)) (inU_21 _ (List.mem_of_getElem? (i := 18) rfl)) (inU_18 _ (List.mem_of_getElem? (i := 22) rfl)) (inU_21 _ (List.mem_of_getElem? (i := 19) rfl)) rfl rfl rfl (by decide +kernel) ⟨Nat.le_of_ble_eq_true rfl, Nat.le_of_ble_eq_true rfl⟩) rfl hl.1 rfl (Nat.le_of_ble_eq_true rfl) dJ0_init_81219_3 ⟨(by first | exact Nat.le_of_ble_eq_true rfl | (show _ ≤ (_ : Nat); simp only [headSpec]; omega)), (by first | exact Nat.le_of_ble_eq_true rfl | (show _ ≤ (_ : Nat); simp only [headSpec]; omega))⟩) (fun ad1 ct1 H locs hp X => ?_)
  obtain ⟨z, h1, h2⟩ := hp
  exact k_vret Z X hr hlocks (Nat.le_of_ble_eq_true rfl) (Nat.le_of_ble_eq_true rfl) dJ0_init_81219_6 ⟨z, h1, h2⟩
theorem dJ4_toString_0e30d_0 : decode cJ4_toString_0e30d 0 = .ok (.new 18, 3) := by decide +kernel
theorem dJ4_toString_0e30d_3 : decode cJ4_toString_0e30d 3 = .ok (.dup, 1) := by decide +kernel
theorem dJ4_toString_0e30d_4 : decode cJ4_toString_0e30d 4 = .ok (.aload_n 0, 1) := by decide +kernel
theorem dJ4_toString_0e30d_5 : decode cJ4_toString_0e30d 5 = .ok (.invokespecial 137, 3) := by decide +kernel
theorem dJ4_toString_0e30d_8 : decode cJ4_toString_0e30d 8 = .ok (.areturn, 1) := by decide +kernel
set_option maxHeartbeats 4000000 in
set_option maxRecDepth 100000 in
theorem c_J4_toString_0e30d (l : Launch) (E : State) (G : kG) (ad : kAd) (ct : kCt) (hE : kE l E G) (mb : Int32) (w : List Nat) (hl16 : w.length ≤ 16) (hl9 : ∀ c ∈ w, c < 128) (t : Nat) (hb0 : ct 97 0 = some (.inr (1, [.ref (ad 96 0), .int 0, .int mb, .int (nI w.length)]))) (hb2 : ct 96 0 = some (.inl (G.2.1, 16, .inl (txF w)))) : Met l yJ4_toString_0e30d (.code yJ4_toString_0e30d cJ4_toString_0e30d 1 (some (.object "java/lang/String")) :: wsL_law) ({ frames := 7, cells := 2, slots := 20, locals := 280 } : Room) (va_Pc [.ref (ad 97 0)] (kPre E G ad ct)) (kQq E G (fun r ad1 ct1 => ∃ z1 z2 : Nat, r = some z1 ∧ ad1 = aup (aup ad 10 t z1) 11 t z2 ∧ ct1 = cup (cup ct 11 t (.inl (G.2.1, w.length, .inl (txF w)))) 10 t (.inr (0, [.ref z2, .int 0, .int 0, .int 0])))) 2 20 (kB E.heap.size) := by
  refine Met.ofW (cc := cJ4_toString_0e30d) (maxL := 1) (ret := (some (.object "java/lang/String"))) (by decide) rfl ?_
  intro p e s m args below meth c s₁ B hml hv
  obtain ⟨rfl, hM, hK, hW0⟩ := hv
  have hlocks := B.notSynchronized
  have hr := B.returns
  have Z : kZ p m c cJ4_toString_0e30d 1 s _ wsL_law RJ4 E G := ⟨⟨B.exec, B.bytes, hml, findClass_of_methodNamed B.named, fun w h => atoms_spec (ws := .code yJ4_toString_0e30d cJ4_toString_0e30d 1 (some (.object "java/lang/String")) :: wsL_law) B.pre w (List.mem_cons_of_mem _ h)⟩, hM, hK⟩
  have hx := Z.1.1
  have hb := Z.1.2.1
  have X := kX.of hW0
  have hl := lv_entry ([.ref (ad 97 0)]) (n := 1) (Nat.le_of_ble_eq_true rfl)
  rw [lg_entry_eq]
  generalize (lg_sl ([.ref (ad 97 0)]) ++ List.replicate (1 - (lg_sl ([.ref (ad 97 0)])).length) Slot.unset).toArray = ls at hl ⊢
  have hl : lv_has ls 1 [(0, .ref (ad 97 0))] := hl
  refine k_new (fs := [.null, .int 0, .int 0, .int 0]) (ci := 0) (ty0 := tyJ0) 10 t Z X inlJ0 tyJ0_ok rfl (inU_21 _ (List.mem_of_getElem? (i := 12) rfl)) (inU_21 _ (List.mem_of_getElem? (i := 13) rfl)) (inU_18 _ (List.mem_of_getElem? (i := 22) rfl)) (fun j hj => by match j, hj with | 0, _ => rfl | 1, _ => rfl | 2, _ => rfl | 3, _ => rfl) (Nat.le_of_ble_eq_true rfl) (Nat.le_of_ble_eq_true rfl) dJ4_toString_0e30d_0 (fun z H X => ?_)
  obtain ⟨adN, hadN⟩ : ∃ y, y = aup ad 10 t z := ⟨_, rfl⟩
  obtain ⟨ctN, hctN⟩ : ∃ y, y = cup ct 10 t (.inr (0, [.null, .int 0, .int 0, .int 0])) := ⟨_, rfl⟩
  rw [← hadN, ← hctN] at X
  have eN : adN 10 t = z := by rw [hadN]; exact aup_s
  subst eN
  have e1 : adN 97 0 = ad 97 0 := by rw [hadN]; exact aup_n (by simp)
  have e2 : adN 96 0 = ad 96 0 := by rw [hadN]; exact aup_n (by simp)
  rw [← e1] at hl
  rw [← e2] at hb0
  have hc : ctN 10 t = some (.inr (0, [.null, .int 0, .int 0, .int 0])) := by rw [hctN]; exact cup_s
  have hb0 : ctN 97 0 = some (.inr (1, [.ref (adN 96 0), .int 0, .int mb, .int (nI w.length)])) := by rw [hctN]; exact (cup_n (by simp)).trans hb0
  have hb2 : ctN 96 0 = some (.inl (G.2.1, 16, .inl (txF w))) := by rw [hctN]; exact (cup_n (by simp)).trans hb2
  refine lv_dup hx hb dJ4_toString_0e30d_3 rfl ?_
  refine lv_aload_n hx hb dJ4_toString_0e30d_4 rfl (lv_at hl 0 rfl) ?_
  refine k_Rv X (k_runI (As := [.ref (adN 97 0)]) (rest := [.ref (adN 10 t)]) Z X (c_J0_init_81219 l E G adN ctN hE mb w hl16 hl9 t hc hb0 hb2) (k_cwI 1 Z.1.2.2.2.2 (inU_21 _ (List.mem_of_getElem? (i := 14) rfl)) (inU_21 _ (List.mem_of_getElem? (i := 15) rfl)) (inU_18 _ (List.mem_of_getElem? (i := 22) rfl)) (inU_21 _ (List.mem_of_getElem? (i := 16) rfl)) rfl rfl rfl (by decide +kernel) ⟨Nat.le_of_ble_eq_true rfl, Nat.le_of_ble_eq_true rfl⟩) rfl hl.1 rfl (Nat.le_of_ble_eq_true rfl) dJ4_toString_0e30d_5 ⟨(by first | exact Nat.le_of_ble_eq_true rfl | (show _ ≤ (_ : Nat); simp only [headSpec]; omega)), (by first | exact Nat.le_of_ble_eq_true rfl | (show _ ≤ (_ : Nat); simp only [headSpec]; omega))⟩) (fun ad1 ct1 H locs hp X => ?_)
  obtain ⟨z2, h1, h2⟩ := hp
  exact k_aret (some (adN 10 t)) Z X hr hlocks (Or.inl ⟨_, rfl⟩) (Nat.le_of_ble_eq_true rfl) (Nat.le_of_ble_eq_true rfl) dJ4_toString_0e30d_8 ⟨_, z2, rfl, by rw [h1, hadN, aup_s], by rw [h2, hctN, cup_sw (by simp), cup_cup, cup_sw2]⟩
theorem dJ0_coder_7d493_0 : decode cJ0_coder_7d493 0 = .ok (.getstatic 38, 3) := by decide +kernel
theorem dJ0_coder_7d493_3 : decode cJ0_coder_7d493 3 = .ok (.ifCond .eq 10, 3) := by decide +kernel
theorem dJ0_coder_7d493_6 : decode cJ0_coder_7d493 6 = .ok (.aload_n 0, 1) := by decide +kernel
theorem dJ0_coder_7d493_7 : decode cJ0_coder_7d493 7 = .ok (.getfield 15, 3) := by decide +kernel
theorem dJ0_coder_7d493_10 : decode cJ0_coder_7d493 10 = .ok (.goto 4, 3) := by decide +kernel
theorem dJ0_coder_7d493_13 : decode cJ0_coder_7d493 13 = .ok (.iconst 1, 1) := by decide +kernel
theorem dJ0_coder_7d493_14 : decode cJ0_coder_7d493 14 = .ok (.ireturn, 1) := by decide +kernel
set_option maxHeartbeats 4000000 in
set_option maxRecDepth 100000 in
theorem c_J0_coder_7d493 (l : Launch) (E : State) (G : kG) (ad : kAd) (ct : kCt) (hE : kE l E G) (t : Nat) (w : List Nat) (hs0 : ct 10 t = some (.inr (0, [.ref (ad 11 t), .int 0, .int 0, .int 0]))) (hs1 : ct 11 t = some (.inl (G.2.1, w.length, .inl (txF w)))) : Met l yJ0_coder_7d493 (.code yJ0_coder_7d493 cJ0_coder_7d493 1 (some .byte) :: wsL_law) ({ frames := 1, cells := 0, slots := 0, locals := 30 } : Room) (va_Pc [.ref (ad 10 t)] (kPre E G ad ct)) (kQi E G (fun r ad1 ct1 => r = 0 ∧ ad = ad1 ∧ ct1 = ct)) 0 0 (kB E.heap.size) := by
  refine Met.ofW (cc := cJ0_coder_7d493) (maxL := 1) (ret := (some .byte)) (by decide) rfl ?_
  intro p e s m args below meth c s₁ B hml hv
  obtain ⟨rfl, hM, hK, hW0⟩ := hv
  have hlocks := B.notSynchronized
  have hr := B.returns
  have Z : kZ p m c cJ0_coder_7d493 1 s _ wsL_law RJ0 E G := ⟨⟨B.exec, B.bytes, hml, findClass_of_methodNamed B.named, fun w h => atoms_spec (ws := .code yJ0_coder_7d493 cJ0_coder_7d493 1 (some .byte) :: wsL_law) B.pre w (List.mem_cons_of_mem _ h)⟩, hM, hK⟩
  have hx := Z.1.1
  have hb := Z.1.2.1
  have X := kX.of hW0
  have hl := lv_entry ([.ref (ad 10 t)]) (n := 1) (Nat.le_of_ble_eq_true rfl)
  rw [lg_entry_eq]
  generalize (lg_sl ([.ref (ad 10 t)]) ++ List.replicate (1 - (lg_sl ([.ref (ad 10 t)])).length) Slot.unset).toArray = ls at hl ⊢
  have hl : lv_has ls 1 [(0, .ref (ad 10 t))] := hl
  refine k_gets Z X hE.2.2.2.2.2.1 (inU_21 _ (List.mem_of_getElem? (i := 23) rfl)) (fun _ h => h) dJ0_coder_7d493_0 ?_
  refine lv_if_eq (tgt := 13) hx hb dJ0_coder_7d493_3 (by decide) (fun c_3 => ?_) (fun c_3 => ?_)
  · exact absurd c_3 (by decide)
  · refine lv_aload_n hx hb dJ0_coder_7d493_6 rfl (lv_at hl 0 rfl) ?_
    refine k_get (index := 15) (j := 1) (ad := ad) (k := 10) (i := t) Z X hs0 inlJ0 rfl (by decide) (inU_21 _ (List.mem_of_getElem? (i := 21) rfl)) (fun _ h => h) (v := .int 0) rfl dJ0_coder_7d493_7 ?_
    refine lv_goto (tgt := 14) hx hb dJ0_coder_7d493_10 (by decide) ?_
    exact k_iret Z X hr hlocks rfl (Nat.le_of_ble_eq_true rfl) (Nat.le_of_ble_eq_true rfl) dJ0_coder_7d493_14 ⟨rfl, rfl, rfl⟩
theorem dJ0_isLatin1_aae02_0 : decode cJ0_isLatin1_aae02 0 = .ok (.getstatic 38, 3) := by decide +kernel
theorem dJ0_isLatin1_aae02_3 : decode cJ0_isLatin1_aae02 3 = .ok (.ifCond .eq 14, 3) := by decide +kernel
theorem dJ0_isLatin1_aae02_6 : decode cJ0_isLatin1_aae02 6 = .ok (.aload_n 0, 1) := by decide +kernel
theorem dJ0_isLatin1_aae02_7 : decode cJ0_isLatin1_aae02 7 = .ok (.getfield 15, 3) := by decide +kernel
theorem dJ0_isLatin1_aae02_10 : decode cJ0_isLatin1_aae02 10 = .ok (.ifCond .ne 7, 3) := by decide +kernel
theorem dJ0_isLatin1_aae02_13 : decode cJ0_isLatin1_aae02 13 = .ok (.iconst 1, 1) := by decide +kernel
theorem dJ0_isLatin1_aae02_14 : decode cJ0_isLatin1_aae02 14 = .ok (.goto 4, 3) := by decide +kernel
theorem dJ0_isLatin1_aae02_17 : decode cJ0_isLatin1_aae02 17 = .ok (.iconst 0, 1) := by decide +kernel
theorem dJ0_isLatin1_aae02_18 : decode cJ0_isLatin1_aae02 18 = .ok (.ireturn, 1) := by decide +kernel
set_option maxHeartbeats 4000000 in
set_option maxRecDepth 100000 in
theorem c_J0_isLatin1_aae02 (l : Launch) (E : State) (G : kG) (ad : kAd) (ct : kCt) (hE : kE l E G) (t : Nat) (w : List Nat) (hs0 : ct 10 t = some (.inr (0, [.ref (ad 11 t), .int 0, .int 0, .int 0]))) (hs1 : ct 11 t = some (.inl (G.2.1, w.length, .inl (txF w)))) : Met l yJ0_isLatin1_aae02 (.code yJ0_isLatin1_aae02 cJ0_isLatin1_aae02 1 (some .boolean) :: wsL_law) ({ frames := 1, cells := 0, slots := 0, locals := 30 } : Room) (va_Pc [.ref (ad 10 t)] (kPre E G ad ct)) (kQi E G (fun r ad1 ct1 => r = 1 ∧ ad = ad1 ∧ ct1 = ct)) 0 0 (kB E.heap.size) := by
  refine Met.ofW (cc := cJ0_isLatin1_aae02) (maxL := 1) (ret := (some .boolean)) (by decide) rfl ?_
  intro p e s m args below meth c s₁ B hml hv
  obtain ⟨rfl, hM, hK, hW0⟩ := hv
  have hlocks := B.notSynchronized
  have hr := B.returns
  have Z : kZ p m c cJ0_isLatin1_aae02 1 s _ wsL_law RJ0 E G := ⟨⟨B.exec, B.bytes, hml, findClass_of_methodNamed B.named, fun w h => atoms_spec (ws := .code yJ0_isLatin1_aae02 cJ0_isLatin1_aae02 1 (some .boolean) :: wsL_law) B.pre w (List.mem_cons_of_mem _ h)⟩, hM, hK⟩
  have hx := Z.1.1
  have hb := Z.1.2.1
  have X := kX.of hW0
  have hl := lv_entry ([.ref (ad 10 t)]) (n := 1) (Nat.le_of_ble_eq_true rfl)
  rw [lg_entry_eq]
  generalize (lg_sl ([.ref (ad 10 t)]) ++ List.replicate (1 - (lg_sl ([.ref (ad 10 t)])).length) Slot.unset).toArray = ls at hl ⊢
  have hl : lv_has ls 1 [(0, .ref (ad 10 t))] := hl
  refine k_gets Z X hE.2.2.2.2.2.1 (inU_21 _ (List.mem_of_getElem? (i := 23) rfl)) (fun _ h => h) dJ0_isLatin1_aae02_0 ?_
  refine lv_if_eq (tgt := 17) hx hb dJ0_isLatin1_aae02_3 (by decide) (fun c_3 => ?_) (fun c_3 => ?_)
  · exact absurd c_3 (by decide)
  · refine lv_aload_n hx hb dJ0_isLatin1_aae02_6 rfl (lv_at hl 0 rfl) ?_
    refine k_get (index := 15) (j := 1) (ad := ad) (k := 10) (i := t) Z X hs0 inlJ0 rfl (by decide) (inU_21 _ (List.mem_of_getElem? (i := 21) rfl)) (fun _ h => h) (v := .int 0) rfl dJ0_isLatin1_aae02_7 ?_
    refine lv_if_ne (tgt := 17) hx hb dJ0_isLatin1_aae02_10 (by decide) (fun c_10 => ?_) (fun c_10 => ?_)
    · exact absurd c_10 (by decide)
    · refine lv_iconst (v := 1) hx hb dJ0_isLatin1_aae02_13 (by decide) ?_
      refine lv_goto (tgt := 18) hx hb dJ0_isLatin1_aae02_14 (by decide) ?_
      exact k_iret Z X hr hlocks rfl (Nat.le_of_ble_eq_true rfl) (Nat.le_of_ble_eq_true rfl) dJ0_isLatin1_aae02_18 ⟨rfl, rfl, rfl⟩
theorem dJ0_length_8abf5_0 : decode cJ0_length_8abf5 0 = .ok (.aload_n 0, 1) := by decide +kernel
theorem dJ0_length_8abf5_1 : decode cJ0_length_8abf5 1 = .ok (.getfield 9, 3) := by decide +kernel
theorem dJ0_length_8abf5_4 : decode cJ0_length_8abf5 4 = .ok (.arraylength, 1) := by decide +kernel
theorem dJ0_length_8abf5_5 : decode cJ0_length_8abf5 5 = .ok (.aload_n 0, 1) := by decide +kernel
theorem dJ0_length_8abf5_6 : decode cJ0_length_8abf5 6 = .ok (.invokevirtual 335, 3) := by decide +kernel
theorem dJ0_length_8abf5_9 : decode cJ0_length_8abf5 9 = .ok (.ishr, 1) := by decide +kernel
theorem dJ0_length_8abf5_10 : decode cJ0_length_8abf5 10 = .ok (.ireturn, 1) := by decide +kernel
set_option maxHeartbeats 4000000 in
set_option maxRecDepth 100000 in
theorem c_J0_length_8abf5 (l : Launch) (E : State) (G : kG) (ad : kAd) (ct : kCt) (hE : kE l E G) (t : Nat) (w : List Nat) (hs0 : ct 10 t = some (.inr (0, [.ref (ad 11 t), .int 0, .int 0, .int 0]))) (hs1 : ct 11 t = some (.inl (G.2.1, w.length, .inl (txF w)))) (hw : w.length < 100) : Met l yJ0_length_8abf5 (.code yJ0_length_8abf5 cJ0_length_8abf5 1 (some .int) :: wsL_law) ({ frames := 2, cells := 0, slots := 0, locals := 60 } : Room) (va_Pc [.ref (ad 10 t)] (kPre E G ad ct)) (kQi E G (fun r ad1 ct1 => r = nI w.length ∧ ad = ad1 ∧ ct1 = ct)) 0 0 (kB E.heap.size) := by
  refine Met.ofW (cc := cJ0_length_8abf5) (maxL := 1) (ret := (some .int)) (by decide) rfl ?_
  intro p e s m args below meth c s₁ B hml hv
  obtain ⟨rfl, hM, hK, hW0⟩ := hv
  have hlocks := B.notSynchronized
  have hr := B.returns
  have Z : kZ p m c cJ0_length_8abf5 1 s _ wsL_law RJ0 E G := ⟨⟨B.exec, B.bytes, hml, findClass_of_methodNamed B.named, fun w h => atoms_spec (ws := .code yJ0_length_8abf5 cJ0_length_8abf5 1 (some .int) :: wsL_law) B.pre w (List.mem_cons_of_mem _ h)⟩, hM, hK⟩
  have hx := Z.1.1
  have hb := Z.1.2.1
  have X := kX.of hW0
  have hl := lv_entry ([.ref (ad 10 t)]) (n := 1) (Nat.le_of_ble_eq_true rfl)
  rw [lg_entry_eq]
  generalize (lg_sl ([.ref (ad 10 t)]) ++ List.replicate (1 - (lg_sl ([.ref (ad 10 t)])).length) Slot.unset).toArray = ls at hl ⊢
  have hl : lv_has ls 1 [(0, .ref (ad 10 t))] := hl
  refine lv_aload_n hx hb dJ0_length_8abf5_0 rfl (lv_at hl 0 rfl) ?_
  refine k_get (index := 9) (j := 0) (ad := ad) (k := 10) (i := t) Z X hs0 inlJ0 rfl (by decide) (inU_21 _ (List.mem_of_getElem? (i := 22) rfl)) (fun _ h => h) (v := .ref (ad 11 t)) rfl dJ0_length_8abf5_1 ?_
  refine k_len (ad := ad) (k := 11) (i := t) (t0 := 0) (v := nI w.length) Z X hs1 rfl rfl dJ0_length_8abf5_4 ?_
  refine lv_aload_n hx hb dJ0_length_8abf5_5 rfl (lv_at hl 0 rfl) ?_
  refine k_Ri X (k_runV (As := []) (rest := [.int (nI w.length)]) Z X (c_J0_coder_7d493 l E G ad ct hE t w hs0 hs1) (k_cwV 0 Z.1.2.2.2.2 (inU_29 _ (List.mem_of_getElem? (i := 5) rfl)) (inU_29 _ (List.mem_of_getElem? (i := 6) rfl)) (inU_29 _ (List.mem_of_getElem? (i := 7) rfl)) (inU_18 _ (List.mem_of_getElem? (i := 22) rfl)) (inU_29 _ (List.mem_of_getElem? (i := 8) rfl)) rfl rfl (by decide +kernel) ⟨Nat.le_of_ble_eq_true rfl, Nat.le_of_ble_eq_true rfl⟩) (k_recv Z X hs0 rfl) rfl hl.1 rfl (Nat.le_of_ble_eq_true rfl) dJ0_length_8abf5_6 ⟨(by first | exact Nat.le_of_ble_eq_true rfl | (show _ ≤ (_ : Nat); simp only [headSpec]; omega)), (by first | exact Nat.le_of_ble_eq_true rfl | (show _ ≤ (_ : Nat); simp only [headSpec]; omega))⟩) (fun r_6 ad1 ct1 H locs hp X => ?_)
  obtain ⟨rfl, ha_, hb_⟩ := hp
  rw [← ha_, hb_] at X
  refine lv_ishr hx hb dJ0_length_8abf5_9 ?_
  refine lv_topi (fun x_9 e_9 => ?_)
  obtain rfl : x_9 = nI w.length := e_9.trans (sb_shr0 _)
  exact k_iret Z X hr hlocks rfl (Nat.le_of_ble_eq_true rfl) (Nat.le_of_ble_eq_true rfl) dJ0_length_8abf5_10 ⟨rfl, rfl, rfl⟩
set_option maxHeartbeats 4000000 in
set_option maxRecDepth 100000 in
theorem c_J3_checkIndex_8e157_n (l : Launch) (E : State) (G : kG) (ad : kAd) (ct : kCt) (i n : Nat) (hin : i < n) (hn : n < 2 ^ 31) : Met l yJ3_checkIndex_8e157 (.code yJ3_checkIndex_8e157 cJ3_checkIndex_8e157 3 (some .int) :: wsL_law) ({ frames := 1, cells := 0, slots := 0, locals := 30 } : Room) (va_Pc [.int (nI i), .int (nI n), .null] (kPre E G ad ct)) (kQi E G (fun r ad1 ct1 => r = nI i ∧ ad = ad1 ∧ ct1 = ct)) 0 0 (kB E.heap.size) := by
  refine Met.ofW (cc := cJ3_checkIndex_8e157) (maxL := 3) (ret := (some .int)) (by decide) rfl ?_
  intro p e s m args below meth c s₁ B hml hv
  obtain ⟨rfl, hM, hK, hW0⟩ := hv
  have hlocks := B.notSynchronized
  have hr := B.returns
  have Z : kZ p m c cJ3_checkIndex_8e157 3 s _ wsL_law RJ3 E G := ⟨⟨B.exec, B.bytes, hml, findClass_of_methodNamed B.named, fun w h => atoms_spec (ws := .code yJ3_checkIndex_8e157 cJ3_checkIndex_8e157 3 (some .int) :: wsL_law) B.pre w (List.mem_cons_of_mem _ h)⟩, hM, hK⟩
  have hx := Z.1.1
  have hb := Z.1.2.1
  have X := kX.of hW0
  have hl := lv_entry ([.int (nI i), .int (nI n), .null]) (n := 3) (Nat.le_of_ble_eq_true rfl)
  rw [lg_entry_eq]
  generalize (lg_sl ([.int (nI i), .int (nI n), .null]) ++ List.replicate (3 - (lg_sl ([.int (nI i), .int (nI n), .null])).length) Slot.unset).toArray = ls at hl ⊢
  have hl : lv_has ls 3 [(0, .int (nI i)), (1, .int (nI n)), (2, .null)] := hl
  refine lv_iload_n hx hb dJ3_checkIndex_8e157_0 rfl (lv_at hl 0 rfl) ?_
  refine lv_if_lt (tgt := 9) hx hb dJ3_checkIndex_8e157_1 (by decide) (fun c_1 => ?_) (fun c_1 => ?_)
  · first | exact absurd c_1 (nI_pos (by omega)) | exact absurd hin c_6
  · refine lv_iload_n hx hb dJ3_checkIndex_8e157_4 rfl (lv_at hl 0 rfl) ?_
    refine lv_iload_n hx hb dJ3_checkIndex_8e157_5 rfl (lv_at hl 1 rfl) ?_
    refine lv_icmp_lt (tgt := 16) hx hb dJ3_checkIndex_8e157_6 (by decide) (fun c_6 => ?_) (fun c_6 => ?_)
    · have c_6 : i < n := (nI_ltI (a := i) (b := n) (by omega) (by omega)).mp c_6
      refine lv_iload_n hx hb dJ3_checkIndex_8e157_16 rfl (lv_at hl 0 rfl) ?_
      exact k_iret Z X hr hlocks rfl (Nat.le_of_ble_eq_true rfl) (Nat.le_of_ble_eq_true rfl) dJ3_checkIndex_8e157_17 ⟨rfl, rfl, rfl⟩
    · have c_6 : ¬ i < n := fun h => c_6 ((nI_ltI (a := i) (b := n) (by omega) (by omega)).mpr h)
      first | exact absurd c_1 (nI_pos (by omega)) | exact absurd hin c_6
set_option maxHeartbeats 4000000 in
set_option maxRecDepth 100000 in
theorem c_J3_checkIndex_8e157_r (l : Launch) (E : State) (G : kG) (ad : kAd) (ct : kCt) (i n : Nat) (hin : i < n) (hn : n < 2 ^ 31) (fm : Nat) : Met l yJ3_checkIndex_8e157 (.code yJ3_checkIndex_8e157 cJ3_checkIndex_8e157 3 (some .int) :: wsL_law) ({ frames := 1, cells := 0, slots := 0, locals := 30 } : Room) (va_Pc [.int (nI i), .int (nI n), .ref fm] (kPre E G ad ct)) (kQi E G (fun r ad1 ct1 => r = nI i ∧ ad = ad1 ∧ ct1 = ct)) 0 0 (kB E.heap.size) := by
  refine Met.ofW (cc := cJ3_checkIndex_8e157) (maxL := 3) (ret := (some .int)) (by decide) rfl ?_
  intro p e s m args below meth c s₁ B hml hv
  obtain ⟨rfl, hM, hK, hW0⟩ := hv
  have hlocks := B.notSynchronized
  have hr := B.returns
  have Z : kZ p m c cJ3_checkIndex_8e157 3 s _ wsL_law RJ3 E G := ⟨⟨B.exec, B.bytes, hml, findClass_of_methodNamed B.named, fun w h => atoms_spec (ws := .code yJ3_checkIndex_8e157 cJ3_checkIndex_8e157 3 (some .int) :: wsL_law) B.pre w (List.mem_cons_of_mem _ h)⟩, hM, hK⟩
  have hx := Z.1.1
  have hb := Z.1.2.1
  have X := kX.of hW0
  have hl := lv_entry ([.int (nI i), .int (nI n), .ref fm]) (n := 3) (Nat.le_of_ble_eq_true rfl)
  rw [lg_entry_eq]
  generalize (lg_sl ([.int (nI i), .int (nI n), .ref fm]) ++ List.replicate (3 - (lg_sl ([.int (nI i), .int (nI n), .ref fm])).length) Slot.unset).toArray = ls at hl ⊢
  have hl : lv_has ls 3 [(0, .int (nI i)), (1, .int (nI n)), (2, .ref fm)] := hl
  refine lv_iload_n hx hb dJ3_checkIndex_8e157_0 rfl (lv_at hl 0 rfl) ?_
  refine lv_if_lt (tgt := 9) hx hb dJ3_checkIndex_8e157_1 (by decide) (fun c_1 => ?_) (fun c_1 => ?_)
  · first | exact absurd c_1 (nI_pos (by omega)) | exact absurd hin c_6
  · refine lv_iload_n hx hb dJ3_checkIndex_8e157_4 rfl (lv_at hl 0 rfl) ?_
    refine lv_iload_n hx hb dJ3_checkIndex_8e157_5 rfl (lv_at hl 1 rfl) ?_
    refine lv_icmp_lt (tgt := 16) hx hb dJ3_checkIndex_8e157_6 (by decide) (fun c_6 => ?_) (fun c_6 => ?_)
    · have c_6 : i < n := (nI_ltI (a := i) (b := n) (by omega) (by omega)).mp c_6
      refine lv_iload_n hx hb dJ3_checkIndex_8e157_16 rfl (lv_at hl 0 rfl) ?_
      exact k_iret Z X hr hlocks rfl (Nat.le_of_ble_eq_true rfl) (Nat.le_of_ble_eq_true rfl) dJ3_checkIndex_8e157_17 ⟨rfl, rfl, rfl⟩
    · have c_6 : ¬ i < n := fun h => c_6 ((nI_ltI (a := i) (b := n) (by omega) (by omega)).mpr h)
      first | exact absurd c_1 (nI_pos (by omega)) | exact absurd hin c_6
theorem dJ0_checkIndex_df160_0 : decode cJ0_checkIndex_df160 0 = .ok (.iload_n 0, 1) := by decide +kernel
theorem dJ0_checkIndex_df160_1 : decode cJ0_checkIndex_df160 1 = .ok (.iload_n 1, 1) := by decide +kernel
theorem dJ0_checkIndex_df160_2 : decode cJ0_checkIndex_df160 2 = .ok (.getstatic 1053, 3) := by decide +kernel
theorem dJ0_checkIndex_df160_5 : decode cJ0_checkIndex_df160 5 = .ok (.invokestatic 1059, 3) := by decide +kernel
theorem dJ0_checkIndex_df160_8 : decode cJ0_checkIndex_df160 8 = .ok (.pop, 1) := by decide +kernel
theorem dJ0_checkIndex_df160_9 : decode cJ0_checkIndex_df160 9 = .ok (.return_, 1) := by decide +kernel
set_option maxHeartbeats 4000000 in
set_option maxRecDepth 100000 in
theorem c_J0_checkIndex_df160 (l : Launch) (E : State) (G : kG) (ad : kAd) (ct : kCt) (hE : kE l E G) (i n : Nat) (hin : i < n) (hn : n < 2 ^ 31) : Met l yJ0_checkIndex_df160 (.code yJ0_checkIndex_df160 cJ0_checkIndex_df160 2 none :: wsL_law) ({ frames := 2, cells := 0, slots := 0, locals := 70 } : Room) (va_Pc [.int (nI i), .int (nI n)] (kPre E G ad ct)) (kQv E G (fun ad1 ct1 => ad = ad1 ∧ ct1 = ct)) 0 0 (kB E.heap.size) := by
  refine Met.ofW (cc := cJ0_checkIndex_df160) (maxL := 2) (ret := none) (by decide) rfl ?_
  intro p e s m args below meth c s₁ B hml hv
  obtain ⟨rfl, hM, hK, hW0⟩ := hv
  have hlocks := B.notSynchronized
  have hr := B.returns
  have Z : kZ p m c cJ0_checkIndex_df160 2 s _ wsL_law RJ0 E G := ⟨⟨B.exec, B.bytes, hml, findClass_of_methodNamed B.named, fun w h => atoms_spec (ws := .code yJ0_checkIndex_df160 cJ0_checkIndex_df160 2 none :: wsL_law) B.pre w (List.mem_cons_of_mem _ h)⟩, hM, hK⟩
  have hx := Z.1.1
  have hb := Z.1.2.1
  have X := kX.of hW0
  have hl := lv_entry ([.int (nI i), .int (nI n)]) (n := 2) (Nat.le_of_ble_eq_true rfl)
  rw [lg_entry_eq]
  generalize (lg_sl ([.int (nI i), .int (nI n)]) ++ List.replicate (2 - (lg_sl ([.int (nI i), .int (nI n)])).length) Slot.unset).toArray = ls at hl ⊢
  have hl : lv_has ls 2 [(0, .int (nI i)), (1, .int (nI n))] := hl
  rcases hE.2.2.2.2.2.2.2.2.2.1 with q0 | ⟨fm, q0⟩
  · refine lv_iload_n hx hb dJ0_checkIndex_df160_0 rfl (lv_at hl 0 rfl) ?_
    refine lv_iload_n hx hb dJ0_checkIndex_df160_1 rfl (lv_at hl 1 rfl) ?_
    refine k_gets Z X q0 (inU_19 _ (List.mem_of_getElem? (i := 0) rfl)) (fun _ h => h) dJ0_checkIndex_df160_2 ?_
    refine k_Ri X (k_runS (As := [.int (nI i), .int (nI n), .null]) (rest := []) Z X (c_J3_checkIndex_8e157_n l E G ad ct i n hin hn) (k_cwS 3 Z.1.2.2.2.2 (inU_21 _ (List.mem_of_getElem? (i := 7) rfl)) (inU_8 _ (List.mem_of_getElem? (i := 10) rfl)) (inU_8 _ (List.mem_of_getElem? (i := 11) rfl)) (inU_8 _ (List.mem_of_getElem? (i := 12) rfl)) rfl rfl (by decide +kernel) ⟨Nat.le_of_ble_eq_true rfl, Nat.le_of_ble_eq_true rfl⟩) rfl hl.1 rfl (Nat.le_of_ble_eq_true rfl) dJ0_checkIndex_df160_5 ⟨(by first | exact Nat.le_of_ble_eq_true rfl | (show _ ≤ (_ : Nat); simp only [headSpec]; omega)), (by first | exact Nat.le_of_ble_eq_true rfl | (show _ ≤ (_ : Nat); simp only [headSpec]; omega))⟩) (fun r_5 ad1 ct1 H locs hp X => ?_)
    obtain ⟨rfl, ha_, hb_⟩ := hp
    rw [← ha_, hb_] at X
    refine lv_pop hx hb dJ0_checkIndex_df160_8 rfl ?_
    exact k_vret Z X hr hlocks (Nat.le_of_ble_eq_true rfl) (Nat.le_of_ble_eq_true rfl) dJ0_checkIndex_df160_9 ⟨rfl, rfl⟩
  · refine lv_iload_n hx hb dJ0_checkIndex_df160_0 rfl (lv_at hl 0 rfl) ?_
    refine lv_iload_n hx hb dJ0_checkIndex_df160_1 rfl (lv_at hl 1 rfl) ?_
    refine k_gets Z X q0 (inU_19 _ (List.mem_of_getElem? (i := 0) rfl)) (fun _ h => h) dJ0_checkIndex_df160_2 ?_
    refine k_Ri X (k_runS (As := [.int (nI i), .int (nI n), .ref fm]) (rest := []) Z X (c_J3_checkIndex_8e157_r l E G ad ct i n hin hn fm) (k_cwS 3 Z.1.2.2.2.2 (inU_21 _ (List.mem_of_getElem? (i := 7) rfl)) (inU_8 _ (List.mem_of_getElem? (i := 10) rfl)) (inU_8 _ (List.mem_of_getElem? (i := 11) rfl)) (inU_8 _ (List.mem_of_getElem? (i := 12) rfl)) rfl rfl (by decide +kernel) ⟨Nat.le_of_ble_eq_true rfl, Nat.le_of_ble_eq_true rfl⟩) rfl hl.1 rfl (Nat.le_of_ble_eq_true rfl) dJ0_checkIndex_df160_5 ⟨(by first | exact Nat.le_of_ble_eq_true rfl | (show _ ≤ (_ : Nat); simp only [headSpec]; omega)), (by first | exact Nat.le_of_ble_eq_true rfl | (show _ ≤ (_ : Nat); simp only [headSpec]; omega))⟩) (fun r_5 ad1 ct1 H locs hp X => ?_)
    obtain ⟨rfl, ha_, hb_⟩ := hp
    rw [← ha_, hb_] at X
    refine lv_pop hx hb dJ0_checkIndex_df160_8 rfl ?_
    exact k_vret Z X hr hlocks (Nat.le_of_ble_eq_true rfl) (Nat.le_of_ble_eq_true rfl) dJ0_checkIndex_df160_9 ⟨rfl, rfl⟩
theorem dJ1_charAt_3b067_0 : decode cJ1_charAt_3b067 0 = .ok (.iload_n 1, 1) := by decide +kernel
theorem dJ1_charAt_3b067_1 : decode cJ1_charAt_3b067 1 = .ok (.aload_n 0, 1) := by decide +kernel
theorem dJ1_charAt_3b067_2 : decode cJ1_charAt_3b067 2 = .ok (.arraylength, 1) := by decide +kernel
theorem dJ1_charAt_3b067_3 : decode cJ1_charAt_3b067 3 = .ok (.invokestatic 9, 3) := by decide +kernel
theorem dJ1_charAt_3b067_6 : decode cJ1_charAt_3b067 6 = .ok (.aload_n 0, 1) := by decide +kernel
theorem dJ1_charAt_3b067_7 : decode cJ1_charAt_3b067 7 = .ok (.iload_n 1, 1) := by decide +kernel
theorem dJ1_charAt_3b067_8 : decode cJ1_charAt_3b067 8 = .ok (.baload, 1) := by decide +kernel
theorem dJ1_charAt_3b067_9 : decode cJ1_charAt_3b067 9 = .ok (.sipush 255, 3) := by decide +kernel
theorem dJ1_charAt_3b067_12 : decode cJ1_charAt_3b067 12 = .ok (.iand, 1) := by decide +kernel
theorem dJ1_charAt_3b067_13 : decode cJ1_charAt_3b067 13 = .ok (.i2c, 1) := by decide +kernel
theorem dJ1_charAt_3b067_14 : decode cJ1_charAt_3b067 14 = .ok (.ireturn, 1) := by decide +kernel
set_option maxHeartbeats 4000000 in
set_option maxRecDepth 100000 in
theorem c_J1_charAt_3b067 (l : Launch) (E : State) (G : kG) (ad : kAd) (ct : kCt) (hE : kE l E G) (t : Nat) (w : List Nat) (hs0 : ct 10 t = some (.inr (0, [.ref (ad 11 t), .int 0, .int 0, .int 0]))) (hs1 : ct 11 t = some (.inl (G.2.1, w.length, .inl (txF w)))) (hw : w.length < 100) (hl9 : ∀ c ∈ w, c < 128) (i : Nat) (hi : i < w.length) : Met l yJ1_charAt_3b067 (.code yJ1_charAt_3b067 cJ1_charAt_3b067 2 (some .char) :: wsL_law) ({ frames := 3, cells := 0, slots := 0, locals := 110 } : Room) (va_Pc [.ref (ad 11 t), .int (nI i)] (kPre E G ad ct)) (kQi E G (fun r ad1 ct1 => r = nI (w.getD i 0) ∧ ad = ad1 ∧ ct1 = ct)) 0 0 (kB E.heap.size) := by
  refine Met.ofW (cc := cJ1_charAt_3b067) (maxL := 2) (ret := (some .char)) (by decide) rfl ?_
  intro p e s m args below meth c s₁ B hml hv
  obtain ⟨rfl, hM, hK, hW0⟩ := hv
  have hlocks := B.notSynchronized
  have hr := B.returns
  have Z : kZ p m c cJ1_charAt_3b067 2 s _ wsL_law RJ1 E G := ⟨⟨B.exec, B.bytes, hml, findClass_of_methodNamed B.named, fun w h => atoms_spec (ws := .code yJ1_charAt_3b067 cJ1_charAt_3b067 2 (some .char) :: wsL_law) B.pre w (List.mem_cons_of_mem _ h)⟩, hM, hK⟩
  have hx := Z.1.1
  have hb := Z.1.2.1
  have X := kX.of hW0
  have hl := lv_entry ([.ref (ad 11 t), .int (nI i)]) (n := 2) (Nat.le_of_ble_eq_true rfl)
  rw [lg_entry_eq]
  generalize (lg_sl ([.ref (ad 11 t), .int (nI i)]) ++ List.replicate (2 - (lg_sl ([.ref (ad 11 t), .int (nI i)])).length) Slot.unset).toArray = ls at hl ⊢
  have hl : lv_has ls 2 [(0, .ref (ad 11 t)), (1, .int (nI i))] := hl
  refine lv_iload_n hx hb dJ1_charAt_3b067_0 rfl (lv_at hl 1 rfl) ?_
  refine lv_aload_n hx hb dJ1_charAt_3b067_1 rfl (lv_at hl 0 rfl) ?_
  refine k_len (ad := ad) (k := 11) (i := t) (t0 := 0) (v := nI w.length) Z X hs1 rfl rfl dJ1_charAt_3b067_2 ?_
  refine k_Rv X (k_runS (As := [.int (nI i), .int (nI w.length)]) (rest := []) Z X (c_J0_checkIndex_df160 l E G ad ct hE i w.length hi (by omega)) (k_cwS 2 Z.1.2.2.2.2 (inU_29 _ (List.mem_of_getElem? (i := 20) rfl)) (inU_21 _ (List.mem_of_getElem? (i := 5) rfl)) (inU_18 _ (List.mem_of_getElem? (i := 22) rfl)) (inU_21 _ (List.mem_of_getElem? (i := 6) rfl)) rfl rfl (by decide +kernel) ⟨Nat.le_of_ble_eq_true rfl, Nat.le_of_ble_eq_true rfl⟩) rfl hl.1 rfl (Nat.le_of_ble_eq_true rfl) dJ1_charAt_3b067_3 ⟨(by first | exact Nat.le_of_ble_eq_true rfl | (show _ ≤ (_ : Nat); simp only [headSpec]; omega)), (by first | exact Nat.le_of_ble_eq_true rfl | (show _ ≤ (_ : Nat); simp only [headSpec]; omega))⟩) (fun ad1 ct1 H locs hp X => ?_)
  obtain ⟨ha_, hb_⟩ := hp
  rw [← ha_, hb_] at X
  refine lv_aload_n hx hb dJ1_charAt_3b067_6 rfl (lv_at hl 0 rfl) ?_
  refine lv_iload_n hx hb dJ1_charAt_3b067_7 rfl (lv_at hl 1 rfl) ?_
  refine k_bld (ad := ad) (k := 11) (i := t) Z X hs1 (vp_in_nI hi (by omega)) dJ1_charAt_3b067_8 ?_
  refine lv_topi (fun x_8 e_8 => ?_)
  obtain rfl : x_8 = nI (w.getD i 0) := e_8.trans (by rw [nI_clamp (by omega)]; rfl)
  refine lv_sipush (v := 255) hx hb dJ1_charAt_3b067_9 (by decide) ?_
  have hch : w.getD i 0 < 128 := getD_lt hl9 (by decide) i
  refine lv_iand hx hb dJ1_charAt_3b067_12 ?_
  refine lv_topi (fun x_12 e_12 => ?_)
  obtain rfl : x_12 = nI (w.getD i 0) := e_12.trans (ch_and _ hch).1
  refine lv_i2c (v := nI (w.getD i 0)) hx hb dJ1_charAt_3b067_13 (ch_and _ hch).2 ?_
  exact k_iret Z X hr hlocks (ch_nar _ hch) (Nat.le_of_ble_eq_true rfl) (Nat.le_of_ble_eq_true rfl) dJ1_charAt_3b067_14 ⟨rfl, rfl, rfl⟩
theorem dJ0_charAt_5068e_0 : decode cJ0_charAt_5068e 0 = .ok (.aload_n 0, 1) := by decide +kernel
theorem dJ0_charAt_5068e_1 : decode cJ0_charAt_5068e 1 = .ok (.invokevirtual 492, 3) := by decide +kernel
theorem dJ0_charAt_5068e_4 : decode cJ0_charAt_5068e 4 = .ok (.ifCond .eq 12, 3) := by decide +kernel
theorem dJ0_charAt_5068e_7 : decode cJ0_charAt_5068e 7 = .ok (.aload_n 0, 1) := by decide +kernel
theorem dJ0_charAt_5068e_8 : decode cJ0_charAt_5068e 8 = .ok (.getfield 9, 3) := by decide +kernel
theorem dJ0_charAt_5068e_11 : decode cJ0_charAt_5068e 11 = .ok (.iload_n 1, 1) := by decide +kernel
theorem dJ0_charAt_5068e_12 : decode cJ0_charAt_5068e 12 = .ok (.invokestatic 495, 3) := by decide +kernel
theorem dJ0_charAt_5068e_15 : decode cJ0_charAt_5068e 15 = .ok (.ireturn, 1) := by decide +kernel
theorem dJ0_charAt_5068e_16 : decode cJ0_charAt_5068e 16 = .ok (.aload_n 0, 1) := by decide +kernel
theorem dJ0_charAt_5068e_17 : decode cJ0_charAt_5068e 17 = .ok (.getfield 9, 3) := by decide +kernel
theorem dJ0_charAt_5068e_20 : decode cJ0_charAt_5068e 20 = .ok (.iload_n 1, 1) := by decide +kernel
theorem dJ0_charAt_5068e_21 : decode cJ0_charAt_5068e 21 = .ok (.invokestatic 498, 3) := by decide +kernel
theorem dJ0_charAt_5068e_24 : decode cJ0_charAt_5068e 24 = .ok (.ireturn, 1) := by decide +kernel
set_option maxHeartbeats 4000000 in
set_option maxRecDepth 100000 in
theorem c_J0_charAt_5068e (l : Launch) (E : State) (G : kG) (ad : kAd) (ct : kCt) (hE : kE l E G) (t : Nat) (w : List Nat) (hs0 : ct 10 t = some (.inr (0, [.ref (ad 11 t), .int 0, .int 0, .int 0]))) (hs1 : ct 11 t = some (.inl (G.2.1, w.length, .inl (txF w)))) (hw : w.length < 100) (hl9 : ∀ c ∈ w, c < 128) (i : Nat) (hi : i < w.length) : Met l yJ0_charAt_5068e (.code yJ0_charAt_5068e cJ0_charAt_5068e 2 (some .char) :: wsL_law) ({ frames := 4, cells := 0, slots := 0, locals := 150 } : Room) (va_Pc [.ref (ad 10 t), .int (nI i)] (kPre E G ad ct)) (kQi E G (fun r ad1 ct1 => r = nI (w.getD i 0) ∧ ad = ad1 ∧ ct1 = ct)) 0 0 (kB E.heap.size) := by
  refine Met.ofW (cc := cJ0_charAt_5068e) (maxL := 2) (ret := (some .char)) (by decide) rfl ?_
  intro p e s m args below meth c s₁ B hml hv
  obtain ⟨rfl, hM, hK, hW0⟩ := hv
  have hlocks := B.notSynchronized
  have hr := B.returns
  have Z : kZ p m c cJ0_charAt_5068e 2 s _ wsL_law RJ0 E G := ⟨⟨B.exec, B.bytes, hml, findClass_of_methodNamed B.named, fun w h => atoms_spec (ws := .code yJ0_charAt_5068e cJ0_charAt_5068e 2 (some .char) :: wsL_law) B.pre w (List.mem_cons_of_mem _ h)⟩, hM, hK⟩
  have hx := Z.1.1
  have hb := Z.1.2.1
  have X := kX.of hW0
  have hl := lv_entry ([.ref (ad 10 t), .int (nI i)]) (n := 2) (Nat.le_of_ble_eq_true rfl)
  rw [lg_entry_eq]
  generalize (lg_sl ([.ref (ad 10 t), .int (nI i)]) ++ List.replicate (2 - (lg_sl ([.ref (ad 10 t), .int (nI i)])).length) Slot.unset).toArray = ls at hl ⊢
  have hl : lv_has ls 2 [(0, .ref (ad 10 t)), (1, .int (nI i))] := hl
  refine lv_aload_n hx hb dJ0_charAt_5068e_0 rfl (lv_at hl 0 rfl) ?_
  refine k_Ri X (k_runV (As := []) (rest := []) Z X (c_J0_isLatin1_aae02 l E G ad ct hE t w hs0 hs1) (k_cwV 0 Z.1.2.2.2.2 (inU_29 _ (List.mem_of_getElem? (i := 13) rfl)) (inU_29 _ (List.mem_of_getElem? (i := 14) rfl)) (inU_29 _ (List.mem_of_getElem? (i := 15) rfl)) (inU_18 _ (List.mem_of_getElem? (i := 22) rfl)) (inU_29 _ (List.mem_of_getElem? (i := 16) rfl)) rfl rfl (by decide +kernel) ⟨Nat.le_of_ble_eq_true rfl, Nat.le_of_ble_eq_true rfl⟩) (k_recv Z X hs0 rfl) rfl hl.1 rfl (Nat.le_of_ble_eq_true rfl) dJ0_charAt_5068e_1 ⟨(by first | exact Nat.le_of_ble_eq_true rfl | (show _ ≤ (_ : Nat); simp only [headSpec]; omega)), (by first | exact Nat.le_of_ble_eq_true rfl | (show _ ≤ (_ : Nat); simp only [headSpec]; omega))⟩) (fun r_1 ad1 ct1 H locs hp X => ?_)
  obtain ⟨rfl, ha_, hb_⟩ := hp
  rw [← ha_, hb_] at X
  refine lv_if_eq (tgt := 16) hx hb dJ0_charAt_5068e_4 (by decide) (fun c_4 => ?_) (fun c_4 => ?_)
  · exact absurd c_4 (by decide)
  · refine lv_aload_n hx hb dJ0_charAt_5068e_7 rfl (lv_at hl 0 rfl) ?_
    refine k_get (index := 9) (j := 0) (ad := ad) (k := 10) (i := t) Z X hs0 inlJ0 rfl (by decide) (inU_21 _ (List.mem_of_getElem? (i := 22) rfl)) (fun _ h => h) (v := .ref (ad 11 t)) rfl dJ0_charAt_5068e_8 ?_
    refine lv_iload_n hx hb dJ0_charAt_5068e_11 rfl (lv_at hl 1 rfl) ?_
    refine k_Ri X (k_runS (As := [.ref (ad 11 t), .int (nI i)]) (rest := []) Z X (c_J1_charAt_3b067 l E G ad ct hE t w hs0 hs1 hw hl9 i hi) (k_cwS 2 Z.1.2.2.2.2 (inU_29 _ (List.mem_of_getElem? (i := 17) rfl)) (inU_29 _ (List.mem_of_getElem? (i := 18) rfl)) (inU_20 _ (List.mem_of_getElem? (i := 0) rfl)) (inU_29 _ (List.mem_of_getElem? (i := 19) rfl)) rfl rfl (by decide +kernel) ⟨Nat.le_of_ble_eq_true rfl, Nat.le_of_ble_eq_true rfl⟩) rfl hl.1 rfl (Nat.le_of_ble_eq_true rfl) dJ0_charAt_5068e_12 ⟨(by first | exact Nat.le_of_ble_eq_true rfl | (show _ ≤ (_ : Nat); simp only [headSpec]; omega)), (by first | exact Nat.le_of_ble_eq_true rfl | (show _ ≤ (_ : Nat); simp only [headSpec]; omega))⟩) (fun r_12 ad1 ct1 H locs hp X => ?_)
    obtain ⟨rfl, ha_, hb_⟩ := hp
    rw [← ha_, hb_] at X
    have hch : w.getD i 0 < 128 := getD_lt hl9 (by decide) i
    exact k_iret Z X hr hlocks (ch_nar _ hch) (Nat.le_of_ble_eq_true rfl) (Nat.le_of_ble_eq_true rfl) dJ0_charAt_5068e_15 ⟨rfl, rfl, rfl⟩
