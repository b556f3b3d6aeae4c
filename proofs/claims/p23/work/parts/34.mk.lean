/-! CONSTRUCTORS with arrays -/
def mkA (kc ka : Nat) (cell : (Nat → Value) → Option va_E) (arr : Nat → Option va_E) (j : Nat) (ad0 : kAd) (ct0 : kCt) (ad : kAd) (ct : kCt) : Prop :=
  (∀ k i, k ≠ ka → ad k i = ad0 k i) ∧ ct kc 0 = cell (fun q => if q < j then .ref (ad ka q) else .null) ∧ (∀ q, q < j → ct ka q = arr q) ∧ (∀ k i, k ≠ kc → k ≠ ka → ct k i = ct0 k i)
theorem mkA.na {kc ka : Nat} {cell : (Nat → Value) → Option va_E} {arr : Nat → Option va_E} {j : Nat} {ad0 : kAd} {ct0 : kCt} {ad : kAd} {ct : kCt} (h : mkA kc ka cell arr j ad0 ct0 ad ct) (hk : kc ≠ ka) (z : Nat) (e : va_E) : aup ad ka j z kc 0 = ad0 kc 0 ∧ cup ct ka j e kc 0 = cell (fun q => if q < j then .ref (aup ad ka j z ka q) else .null) := by
  refine ⟨(aup_n (fun y => hk y.1)).trans (h.1 kc 0 hk), (cup_n (fun y => hk y.1)).trans (h.2.1.trans (congrArg cell ?_))⟩
  funext q
  by_cases hq : q < j
  · rw [if_pos hq, if_pos hq, aup_n (fun y => by omega)]
  · rw [if_neg hq, if_neg hq]
theorem mkA.nb {kc ka : Nat} {cell : (Nat → Value) → Option va_E} {arr : Nat → Option va_E} {j : Nat} {ad0 : kAd} {ct0 : kCt} {ad : kAd} {ct : kCt} (h : mkA kc ka cell arr j ad0 ct0 ad ct) (hk : kc ≠ ka) (z : Nat) (e C : va_E) (he : arr j = some e) (hf : cell (fun q => if q < j + 1 then .ref (aup ad ka j z ka q) else .null) = some C) : mkA kc ka cell arr (j + 1) ad0 ct0 (aup ad ka j z) (cup (cup ct ka j e) kc 0 C) := by
  refine ⟨fun k i hh => (aup_n (fun y => hh y.1)).trans (h.1 k i hh), by rw [cup_s, hf], fun q hq => ?_, fun k i h1 h2 => (cup_n (fun y => h1 y.1)).trans ((cup_n (fun y => h2 y.1)).trans (h.2.2.2 k i h1 h2))⟩
  rw [cup_n (fun y => hk y.1.symm)]
  by_cases hj : q = j
  · rw [hj, cup_s, he]
  · rw [cup_n (fun y => hj y.2)]; exact h.2.2.1 q (by omega)
def m1c (r : Nat → Value) : Option va_E := some (.inr (4, [r 0, r 1, r 2, .int 0]))
def kT0 : kSt := (fun _ _ => 0, fun _ _ => 0)
theorem dX1_init_0 : decode cX1_init 0 = .ok (.aload_n 0, 1) := by decide +kernel
theorem dX1_init_1 : decode cX1_init 1 = .ok (.invokespecial 3, 3) := by decide +kernel
theorem dX1_init_4 : decode cX1_init 4 = .ok (.aload_n 0, 1) := by decide +kernel
theorem dX1_init_5 : decode cX1_init 5 = .ok (.sipush 512, 3) := by decide +kernel
theorem dX1_init_8 : decode cX1_init 8 = .ok (.newarray .int, 2) := by decide +kernel
theorem dX1_init_10 : decode cX1_init 10 = .ok (.putfield 9, 3) := by decide +kernel
theorem dX1_init_13 : decode cX1_init 13 = .ok (.aload_n 0, 1) := by decide +kernel
theorem dX1_init_14 : decode cX1_init 14 = .ok (.sipush 512, 3) := by decide +kernel
theorem dX1_init_17 : decode cX1_init 17 = .ok (.newarray .int, 2) := by decide +kernel
theorem dX1_init_19 : decode cX1_init 19 = .ok (.putfield 15, 3) := by decide +kernel
theorem dX1_init_22 : decode cX1_init 22 = .ok (.aload_n 0, 1) := by decide +kernel
theorem dX1_init_23 : decode cX1_init 23 = .ok (.sipush 512, 3) := by decide +kernel
theorem dX1_init_26 : decode cX1_init 26 = .ok (.newarray .int, 2) := by decide +kernel
theorem dX1_init_28 : decode cX1_init 28 = .ok (.putfield 18, 3) := by decide +kernel
theorem dX1_init_31 : decode cX1_init 31 = .ok (.return_, 1) := by decide +kernel
set_option maxHeartbeats 4000000 in
set_option maxRecDepth 100000 in
theorem c_X1_init (l : Launch) (E : State) (G : kG) (ad : kAd) (ct : kCt) (h : mkA 12 13 m1c (fun _ => some (.inl (G.2.2.1, 512, .inl (fun _ => 0)))) 0 ad ct ad ct) : Met l yX1_init (.code yX1_init cX1_init 1 none :: wsL_law) ({ frames := 3, cells := 3, slots := 1536, locals := 100 } : Room) (va_Pc [.ref (ad 12 0)] (kPre E G ad ct)) (kQv E G (fun ad1 ct1 => mkA 12 13 m1c (fun _ => some (.inl (G.2.2.1, 512, .inl (fun _ => 0)))) 3 ad ct ad1 ct1)) 3 1536 (kB E.heap.size) := by
  refine Met.ofW (cc := cX1_init) (maxL := 1) (ret := none) (by decide) rfl ?_
  intro p e s m args below meth c s₁ B hml hv
  obtain ⟨rfl, hM, hK, hW0⟩ := hv
  have hlocks := B.notSynchronized
  have hr := B.returns
  have hin : meth.name = "<init>" := (name_of_methodNamed B.named B.method).1
  have Z : kZ p m c cX1_init 1 s _ wsL_law RX1 E G := ⟨⟨B.exec, B.bytes, hml, findClass_of_methodNamed B.named, fun w h => atoms_spec (ws := .code yX1_init cX1_init 1 none :: wsL_law) B.pre w (List.mem_cons_of_mem _ h)⟩, hM, hK⟩
  have hx := Z.1.1
  have hb := Z.1.2.1
  have X := kX.of hW0
  have hl := lv_entry ([.ref (ad 12 0)]) (n := 1) (Nat.le_of_ble_eq_true rfl)
  rw [lg_entry_eq]
  generalize (lg_sl ([.ref (ad 12 0)]) ++ List.replicate (1 - (lg_sl ([.ref (ad 12 0)])).length) Slot.unset).toArray = ls at hl ⊢
  have hl : lv_has ls 1 [(0, .ref (ad 12 0))] := hl
  refine lv_aload_n hx hb dX1_init_0 rfl (lv_at hl 0 rfl) ?_
  refine k_objInit Z (inU_5 _ (List.mem_of_getElem? (i := 15) rfl)) (inU_1 _ (List.mem_of_getElem? (i := 13) rfl)) (inU_1 _ (List.mem_of_getElem? (i := 14) rfl)) hl.1 (Nat.le_of_ble_eq_true rfl) ⟨(Nat.le_of_ble_eq_true rfl), (Nat.le_of_ble_eq_true rfl)⟩ dX1_init_1 ?_
  refine lv_aload_n hx hb dX1_init_4 rfl (lv_at hl 0 rfl) ?_
  refine lv_sipush (v := 512) hx hb dX1_init_5 (by decide) ?_
  refine k_newa (atype := .int) (ty := .int) (t0 := 1) (N' := 512) (a0 := (512, .inl (fun _ => 0))) 13 0 Z X (inU_1 _ (List.mem_of_getElem? (i := 3) rfl)) rfl rfl (fun h => h) rfl (by decide) rfl (by decide) (Nat.le_of_ble_eq_true rfl) (Nat.le_of_ble_eq_true rfl) dX1_init_8 (fun z H X => ?_)
  obtain ⟨n1, n2⟩ := h.na (by decide) z (.inl (G.2.2.1, 512, .inl (fun _ => 0)))
  refine W.eq (congrArg (fun y => F0 m 10 ls [.ref z, .ref y]) n1.symm) ?_
  refine k_putF (index := 9) (j := 0) (k := 12) (i := 0) Z X n2 inlX1 tyX1_ok nmX1 rfl (by decide) (inU_5 _ (List.mem_of_getElem? (i := 16) rfl)) rfl hin rfl (Nat.le_of_ble_eq_true rfl) rfl rfl dX1_init_10 (fun H locs X => ?_)
  have h := h.nb (by decide) z (.inl (G.2.2.1, 512, .inl (fun _ => 0))) _ rfl rfl
  obtain ⟨ad1, ct1, h, X⟩ : ∃ ad1 ct1, mkA 12 13 m1c (fun _ => some (.inl (G.2.2.1, 512, .inl (fun _ => 0)))) 1 ad ct ad1 ct1 ∧ kX E G s H locs ad1 ct1 := ⟨_, _, h, X⟩
  clear n1 n2
  refine lv_aload_n hx hb dX1_init_13 rfl (lv_at hl 0 rfl) ?_
  refine lv_sipush (v := 512) hx hb dX1_init_14 (by decide) ?_
  refine k_newa (atype := .int) (ty := .int) (t0 := 1) (N' := 512) (a0 := (512, .inl (fun _ => 0))) 13 1 Z X (inU_1 _ (List.mem_of_getElem? (i := 3) rfl)) rfl rfl (fun h => h) rfl (by decide) rfl (by decide) (Nat.le_of_ble_eq_true rfl) (Nat.le_of_ble_eq_true rfl) dX1_init_17 (fun z H X => ?_)
  obtain ⟨n1, n2⟩ := h.na (by decide) z (.inl (G.2.2.1, 512, .inl (fun _ => 0)))
  refine W.eq (congrArg (fun y => F0 m 19 ls [.ref z, .ref y]) n1.symm) ?_
  refine k_putF (index := 15) (j := 1) (k := 12) (i := 0) Z X n2 inlX1 tyX1_ok nmX1 rfl (by decide) (inU_5 _ (List.mem_of_getElem? (i := 17) rfl)) rfl hin rfl (Nat.le_of_ble_eq_true rfl) rfl rfl dX1_init_19 (fun H locs X => ?_)
  have h := h.nb (by decide) z (.inl (G.2.2.1, 512, .inl (fun _ => 0))) _ rfl rfl
  obtain ⟨ad1, ct1, h, X⟩ : ∃ ad1 ct1, mkA 12 13 m1c (fun _ => some (.inl (G.2.2.1, 512, .inl (fun _ => 0)))) 2 ad ct ad1 ct1 ∧ kX E G s H locs ad1 ct1 := ⟨_, _, h, X⟩
  clear n1 n2
  refine lv_aload_n hx hb dX1_init_22 rfl (lv_at hl 0 rfl) ?_
  refine lv_sipush (v := 512) hx hb dX1_init_23 (by decide) ?_
  refine k_newa (atype := .int) (ty := .int) (t0 := 1) (N' := 512) (a0 := (512, .inl (fun _ => 0))) 13 2 Z X (inU_1 _ (List.mem_of_getElem? (i := 3) rfl)) rfl rfl (fun h => h) rfl (by decide) rfl (by decide) (Nat.le_of_ble_eq_true rfl) (Nat.le_of_ble_eq_true rfl) dX1_init_26 (fun z H X => ?_)
  obtain ⟨n1, n2⟩ := h.na (by decide) z (.inl (G.2.2.1, 512, .inl (fun _ => 0)))
  refine W.eq (congrArg (fun y => F0 m 28 ls [.ref z, .ref y]) n1.symm) ?_
  refine k_putF (index := 18) (j := 2) (k := 12) (i := 0) Z X n2 inlX1 tyX1_ok nmX1 rfl (by decide) (inU_5 _ (List.mem_of_getElem? (i := 18) rfl)) rfl hin rfl (Nat.le_of_ble_eq_true rfl) rfl rfl dX1_init_28 (fun H locs X => ?_)
  have h := h.nb (by decide) z (.inl (G.2.2.1, 512, .inl (fun _ => 0))) _ rfl rfl
  obtain ⟨ad1, ct1, h, X⟩ : ∃ ad1 ct1, mkA 12 13 m1c (fun _ => some (.inl (G.2.2.1, 512, .inl (fun _ => 0)))) 3 ad ct ad1 ct1 ∧ kX E G s H locs ad1 ct1 := ⟨_, _, h, X⟩
  clear n1 n2
  exact k_vret Z X hr hlocks (by omega) (by omega) dX1_init_31 h
