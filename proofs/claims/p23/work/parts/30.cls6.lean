/-! THE CLASS: what makes things -/
def gU (S : kSt) (x : Int32) (cap : Nat) : kSt := sI (sN (oUser S x) 6 1 cap) 19 1 (S.1 19 1 + 1)
def oPo (S : kSt) (u c p : Int32) : kSt := sF (sI (sI (oPost S u c p) 7 (S.2 0 1) 0) 8 (S.2 0 1) 0) (100 + S.2 0 1) (fun q => if q < 12 then -1 else 0)
def gM (S : kSt) (u c p : Int32) (cap : Nat) : kSt := sI (sN (oPo S u c p) 6 2 cap) 19 2 (S.1 19 2 + 1)
def gS (S : kSt) (m x : Int32) (cap : Nat) : kSt := sI (sN (oSpend S m x) 6 3 cap) 19 3 (S.1 19 3 + 1)
def gT (S : kSt) (m w x : Int32) (cap : Nat) : kSt := sI (sN (oTask S m w x) 6 4 cap) 19 4 (S.1 19 4 + 1)
theorem cup_sw {ct : kCt} {k i k' i' : Nat} {A B C : va_E} (h : ¬ (k = k' ∧ i = i')) : cup (cup (cup ct k i A) k' i' B) k i C = cup (cup (cup ct k i A) k i C) k' i' B := by
  funext a b
  by_cases h1 : a = k ∧ b = i
  · have h2 : ¬ (a = k' ∧ b = i') := fun z => h ⟨h1.1.symm.trans z.1, h1.2.symm.trans z.2⟩
    rw [h1.1, h1.2, cup_s, cup_n (fun z => h z), cup_s]
  · by_cases h2 : a = k' ∧ b = i'
    · rw [cup_n h1, h2.1, h2.2, cup_s, cup_s]
    · rw [cup_n h1, cup_n h2, cup_n h1, cup_n h2, cup_n h1, cup_n h1]
theorem dX0_init_0 : decode cX0_init 0 = .ok (.aload_n 0, 1) := by decide +kernel
theorem dX0_init_1 : decode cX0_init 1 = .ok (.invokespecial 1, 3) := by decide +kernel
theorem dX0_init_4 : decode cX0_init 4 = .ok (.aload_n 0, 1) := by decide +kernel
theorem dX0_init_5 : decode cX0_init 5 = .ok (.iload_n 1, 1) := by decide +kernel
theorem dX0_init_6 : decode cX0_init 6 = .ok (.putfield 7, 3) := by decide +kernel
theorem dX0_init_9 : decode cX0_init 9 = .ok (.return_, 1) := by decide +kernel
set_option maxHeartbeats 4000000 in
set_option maxRecDepth 100000 in
theorem c_X0_init (l : Launch) (E : State) (G : kG) (ad : kAd) (ct : kCt) (i n : Nat) (hc : ct 3 i = some (.inr (3, [.int 0, .int 0, .int 0]))) : Met l yX0_init (.code yX0_init cX0_init 2 none :: wsL_law) ({ frames := 2, cells := 0, slots := 0, locals := 40 } : Room) (va_Pc [.ref (ad 3 i), .int (nI n)] (kPre E G ad ct)) (kQv E G (fun ad1 ct1 => ad = ad1 ∧ ct1 = cup ct 3 i (.inr (3, [.int (nI n), .int 0, .int 0])))) 0 0 (kB E.heap.size) := by
  refine Met.ofW (cc := cX0_init) (maxL := 2) (ret := none) (by decide) rfl ?_
  intro p e s m args below meth c s₁ B hml hv
  obtain ⟨rfl, hM, hK, hW0⟩ := hv
  have hlocks := B.notSynchronized
  have hr := B.returns
  have hin : meth.name = "<init>" := (name_of_methodNamed B.named B.method).1
  have Z : kZ p m c cX0_init 2 s _ wsL_law RX0 E G := ⟨⟨B.exec, B.bytes, hml, findClass_of_methodNamed B.named, fun w h => atoms_spec (ws := .code yX0_init cX0_init 2 none :: wsL_law) B.pre w (List.mem_cons_of_mem _ h)⟩, hM, hK⟩
  have hx := Z.1.1
  have hb := Z.1.2.1
  have X := kX.of hW0
  have hl := lv_entry ([.ref (ad 3 i), .int (nI n)]) (n := 2) (Nat.le_of_ble_eq_true rfl)
  rw [lg_entry_eq]
  generalize (lg_sl ([.ref (ad 3 i), .int (nI n)]) ++ List.replicate (2 - (lg_sl ([.ref (ad 3 i), .int (nI n)])).length) Slot.unset).toArray = ls at hl ⊢
  have hl : lv_has ls 2 [(0, .ref (ad 3 i)), (1, .int (nI n))] := hl
  refine lv_aload_n hx hb dX0_init_0 rfl (lv_at hl 0 rfl) ?_
  refine k_objInit Z (inU_3 _ (List.mem_of_getElem? (i := 5) rfl)) (inU_1 _ (List.mem_of_getElem? (i := 13) rfl)) (inU_1 _ (List.mem_of_getElem? (i := 14) rfl)) hl.1 (Nat.le_of_ble_eq_true rfl) ⟨(Nat.le_of_ble_eq_true rfl), (Nat.le_of_ble_eq_true rfl)⟩ dX0_init_1 ?_
  refine lv_aload_n hx hb dX0_init_4 rfl (lv_at hl 0 rfl) ?_
  refine lv_iload_n hx hb dX0_init_5 rfl (lv_at hl 1 rfl) ?_
  refine k_putF (index := 7) (j := 0) (k := 3) (i := i) Z X hc inlX0 tyX0_ok nmX0 rfl (by decide) (inU_3 _ (List.mem_of_getElem? (i := 6) rfl)) rfl hin rfl (Nat.le_of_ble_eq_true rfl) rfl rfl dX0_init_6 (fun H locs X => ?_)
  have X : kX E G s H locs ad (cup ct 3 i (.inr (3, [.int (nI n), .int 0, .int 0]))) := kXz X rfl (by first | rfl | exact cup_cup)
  exact k_vret Z X hr hlocks (by omega) (by omega) dX0_init_9 ⟨rfl, rfl⟩
theorem dX6_init_0 : decode cX6_init 0 = .ok (.aload_n 0, 1) := by decide +kernel
theorem dX6_init_1 : decode cX6_init 1 = .ok (.invokespecial 3, 3) := by decide +kernel
theorem dX6_init_4 : decode cX6_init 4 = .ok (.aload_n 0, 1) := by decide +kernel
theorem dX6_init_5 : decode cX6_init 5 = .ok (.iload_n 1, 1) := by decide +kernel
theorem dX6_init_6 : decode cX6_init 6 = .ok (.putfield 9, 3) := by decide +kernel
theorem dX6_init_9 : decode cX6_init 9 = .ok (.aload_n 0, 1) := by decide +kernel
theorem dX6_init_10 : decode cX6_init 10 = .ok (.iload_n 2, 1) := by decide +kernel
theorem dX6_init_11 : decode cX6_init 11 = .ok (.putfield 15, 3) := by decide +kernel
theorem dX6_init_14 : decode cX6_init 14 = .ok (.aload_n 0, 1) := by decide +kernel
theorem dX6_init_15 : decode cX6_init 15 = .ok (.iconst (-1), 1) := by decide +kernel
theorem dX6_init_16 : decode cX6_init 16 = .ok (.putfield 18, 3) := by decide +kernel
theorem dX6_init_19 : decode cX6_init 19 = .ok (.return_, 1) := by decide +kernel
set_option maxHeartbeats 4000000 in
set_option maxRecDepth 100000 in
theorem c_X6_init (l : Launch) (E : State) (G : kG) (ad : kAd) (ct : kCt) (i n : Nat) (r : Int32) (hc : ct 4 i = some (.inr (9, [.int 0, .int 0, .int 0]))) : Met l yX6_init (.code yX6_init cX6_init 3 none :: wsL_law) ({ frames := 2, cells := 0, slots := 0, locals := 40 } : Room) (va_Pc [.ref (ad 4 i), .int (nI n), .int r] (kPre E G ad ct)) (kQv E G (fun ad1 ct1 => ad = ad1 ∧ ct1 = cup ct 4 i (.inr (9, [.int (nI n), .int r, .int (-1)])))) 0 0 (kB E.heap.size) := by
  refine Met.ofW (cc := cX6_init) (maxL := 3) (ret := none) (by decide) rfl ?_
  intro p e s m args below meth c s₁ B hml hv
  obtain ⟨rfl, hM, hK, hW0⟩ := hv
  have hlocks := B.notSynchronized
  have hr := B.returns
  have hin : meth.name = "<init>" := (name_of_methodNamed B.named B.method).1
  have Z : kZ p m c cX6_init 3 s _ wsL_law RX6 E G := ⟨⟨B.exec, B.bytes, hml, findClass_of_methodNamed B.named, fun w h => atoms_spec (ws := .code yX6_init cX6_init 3 none :: wsL_law) B.pre w (List.mem_cons_of_mem _ h)⟩, hM, hK⟩
  have hx := Z.1.1
  have hb := Z.1.2.1
  have X := kX.of hW0
  have hl := lv_entry ([.ref (ad 4 i), .int (nI n), .int r]) (n := 3) (Nat.le_of_ble_eq_true rfl)
  rw [lg_entry_eq]
  generalize (lg_sl ([.ref (ad 4 i), .int (nI n), .int r]) ++ List.replicate (3 - (lg_sl ([.ref (ad 4 i), .int (nI n), .int r])).length) Slot.unset).toArray = ls at hl ⊢
  have hl : lv_has ls 3 [(0, .ref (ad 4 i)), (1, .int (nI n)), (2, .int r)] := hl
  refine lv_aload_n hx hb dX6_init_0 rfl (lv_at hl 0 rfl) ?_
  refine k_objInit Z (inU_7 _ (List.mem_of_getElem? (i := 9) rfl)) (inU_1 _ (List.mem_of_getElem? (i := 13) rfl)) (inU_1 _ (List.mem_of_getElem? (i := 14) rfl)) hl.1 (Nat.le_of_ble_eq_true rfl) ⟨(Nat.le_of_ble_eq_true rfl), (Nat.le_of_ble_eq_true rfl)⟩ dX6_init_1 ?_
  refine lv_aload_n hx hb dX6_init_4 rfl (lv_at hl 0 rfl) ?_
  refine lv_iload_n hx hb dX6_init_5 rfl (lv_at hl 1 rfl) ?_
  refine k_putF (index := 9) (j := 0) (k := 4) (i := i) Z X hc inlX6 tyX6_ok nmX6 rfl (by decide) (inU_7 _ (List.mem_of_getElem? (i := 10) rfl)) rfl hin rfl (Nat.le_of_ble_eq_true rfl) rfl rfl dX6_init_6 (fun H locs X => ?_)
  have X : kX E G s H locs ad (cup ct 4 i (.inr (9, [.int (nI n), .int 0, .int 0]))) := kXz X rfl (by first | rfl | exact cup_cup)
  refine lv_aload_n hx hb dX6_init_9 rfl (lv_at hl 0 rfl) ?_
  refine lv_iload_n hx hb dX6_init_10 rfl (lv_at hl 2 rfl) ?_
  refine k_put (index := 15) (j := 1) (k := 4) (i := i) Z X cup_s inlX6 tyX6_ok nmX6 rfl (by decide) (inU_7 _ (List.mem_of_getElem? (i := 11) rfl)) (fun _ h => h) rfl (Nat.le_of_ble_eq_true rfl) rfl rfl dX6_init_11 (fun H locs X => ?_)
  have X : kX E G s H locs ad (cup ct 4 i (.inr (9, [.int (nI n), .int r, .int 0]))) := kXz X rfl (by first | rfl | exact cup_cup)
  refine lv_aload_n hx hb dX6_init_14 rfl (lv_at hl 0 rfl) ?_
  refine lv_iconst (v := (-1)) hx hb dX6_init_15 (by decide) ?_
  refine k_put (index := 18) (j := 2) (k := 4) (i := i) Z X cup_s inlX6 tyX6_ok nmX6 rfl (by decide) (inU_7 _ (List.mem_of_getElem? (i := 12) rfl)) (fun _ h => h) rfl (Nat.le_of_ble_eq_true rfl) rfl rfl dX6_init_16 (fun H locs X => ?_)
  have X : kX E G s H locs ad (cup ct 4 i (.inr (9, [.int (nI n), .int r, .int (-1)]))) := kXz X rfl (by first | rfl | exact cup_cup)
  exact k_vret Z X hr hlocks (by omega) (by omega) dX6_init_19 ⟨rfl, rfl⟩
theorem dX4_init_0 : decode cX4_init 0 = .ok (.aload_n 0, 1) := by decide +kernel
theorem dX4_init_1 : decode cX4_init 1 = .ok (.invokespecial 3, 3) := by decide +kernel
theorem dX4_init_4 : decode cX4_init 4 = .ok (.aload_n 0, 1) := by decide +kernel
theorem dX4_init_5 : decode cX4_init 5 = .ok (.iload_n 1, 1) := by decide +kernel
theorem dX4_init_6 : decode cX4_init 6 = .ok (.putfield 9, 3) := by decide +kernel
theorem dX4_init_9 : decode cX4_init 9 = .ok (.aload_n 0, 1) := by decide +kernel
theorem dX4_init_10 : decode cX4_init 10 = .ok (.aload_n 2, 1) := by decide +kernel
theorem dX4_init_11 : decode cX4_init 11 = .ok (.putfield 15, 3) := by decide +kernel
theorem dX4_init_14 : decode cX4_init 14 = .ok (.aload_n 0, 1) := by decide +kernel
theorem dX4_init_15 : decode cX4_init 15 = .ok (.aload_n 2, 1) := by decide +kernel
theorem dX4_init_16 : decode cX4_init 16 = .ok (.getfield 19, 3) := by decide +kernel
theorem dX4_init_19 : decode cX4_init 19 = .ok (.putfield 24, 3) := by decide +kernel
theorem dX4_init_22 : decode cX4_init 22 = .ok (.aload_n 0, 1) := by decide +kernel
theorem dX4_init_23 : decode cX4_init 23 = .ok (.iload_n 3, 1) := by decide +kernel
theorem dX4_init_24 : decode cX4_init 24 = .ok (.putfield 25, 3) := by decide +kernel
theorem dX4_init_27 : decode cX4_init 27 = .ok (.aload_n 0, 1) := by decide +kernel
theorem dX4_init_28 : decode cX4_init 28 = .ok (.iconst 0, 1) := by decide +kernel
theorem dX4_init_29 : decode cX4_init 29 = .ok (.putfield 28, 3) := by decide +kernel
theorem dX4_init_32 : decode cX4_init 32 = .ok (.return_, 1) := by decide +kernel
set_option maxHeartbeats 4000000 in
set_option maxRecDepth 100000 in
theorem c_X4_init (l : Launch) (E : State) (G : kG) (ad : kAd) (ct : kCt) (i n a : Nat) (x v : Int32) (mv0 mv1 mv2 mv3 mv4 mv5 mv7 : Value) (hc : ct 8 i = some (.inr (7, [.int 0, .null, .int 0, .int 0, .int 0]))) (hm : ct 5 a = some (.inr (6, [mv0, mv1, mv2, mv3, mv4, mv5, .int v, mv7]))) : Met l yX4_init (.code yX4_init cX4_init 4 none :: wsL_law) ({ frames := 2, cells := 0, slots := 0, locals := 40 } : Room) (va_Pc [.ref (ad 8 i), .int (nI n), .ref (ad 5 a), .int x] (kPre E G ad ct)) (kQv E G (fun ad1 ct1 => ad = ad1 ∧ ct1 = cup ct 8 i (.inr (7, [.int (nI n), .ref (ad 5 a), .int v, .int x, .int 0])))) 0 0 (kB E.heap.size) := by
  refine Met.ofW (cc := cX4_init) (maxL := 4) (ret := none) (by decide) rfl ?_
  intro p e s m args below meth c s₁ B hml hv
  obtain ⟨rfl, hM, hK, hW0⟩ := hv
  have hlocks := B.notSynchronized
  have hr := B.returns
  have hin : meth.name = "<init>" := (name_of_methodNamed B.named B.method).1
  have Z : kZ p m c cX4_init 4 s _ wsL_law RX4 E G := ⟨⟨B.exec, B.bytes, hml, findClass_of_methodNamed B.named, fun w h => atoms_spec (ws := .code yX4_init cX4_init 4 none :: wsL_law) B.pre w (List.mem_cons_of_mem _ h)⟩, hM, hK⟩
  have hx := Z.1.1
  have hb := Z.1.2.1
  have X := kX.of hW0
  have hl := lv_entry ([.ref (ad 8 i), .int (nI n), .ref (ad 5 a), .int x]) (n := 4) (Nat.le_of_ble_eq_true rfl)
  rw [lg_entry_eq]
  generalize (lg_sl ([.ref (ad 8 i), .int (nI n), .ref (ad 5 a), .int x]) ++ List.replicate (4 - (lg_sl ([.ref (ad 8 i), .int (nI n), .ref (ad 5 a), .int x])).length) Slot.unset).toArray = ls at hl ⊢
  have hl : lv_has ls 4 [(0, .ref (ad 8 i)), (1, .int (nI n)), (2, .ref (ad 5 a)), (3, .int x)] := hl
  refine lv_aload_n hx hb dX4_init_0 rfl (lv_at hl 0 rfl) ?_
  refine k_objInit Z (inU_14 _ (List.mem_of_getElem? (i := 10) rfl)) (inU_1 _ (List.mem_of_getElem? (i := 13) rfl)) (inU_1 _ (List.mem_of_getElem? (i := 14) rfl)) hl.1 (Nat.le_of_ble_eq_true rfl) ⟨(Nat.le_of_ble_eq_true rfl), (Nat.le_of_ble_eq_true rfl)⟩ dX4_init_1 ?_
  refine lv_aload_n hx hb dX4_init_4 rfl (lv_at hl 0 rfl) ?_
  refine lv_iload_n hx hb dX4_init_5 rfl (lv_at hl 1 rfl) ?_
  refine k_putF (index := 9) (j := 0) (k := 8) (i := i) Z X hc inlX4 tyX4_ok nmX4 rfl (by decide) (inU_14 _ (List.mem_of_getElem? (i := 11) rfl)) rfl hin rfl (Nat.le_of_ble_eq_true rfl) rfl rfl dX4_init_6 (fun H locs X => ?_)
  have X : kX E G s H locs ad (cup ct 8 i (.inr (7, [.int (nI n), .null, .int 0, .int 0, .int 0]))) := kXz X rfl (by first | rfl | exact cup_cup)
  refine lv_aload_n hx hb dX4_init_9 rfl (lv_at hl 0 rfl) ?_
  refine lv_aload_n hx hb dX4_init_10 rfl (lv_at hl 2 rfl) ?_
  refine k_putF (index := 15) (j := 1) (k := 8) (i := i) Z X cup_s inlX4 tyX4_ok nmX4 rfl (by decide) (inU_14 _ (List.mem_of_getElem? (i := 12) rfl)) rfl hin rfl (Nat.le_of_ble_eq_true rfl) rfl rfl dX4_init_11 (fun H locs X => ?_)
  have X : kX E G s H locs ad (cup ct 8 i (.inr (7, [.int (nI n), .ref (ad 5 a), .int 0, .int 0, .int 0]))) := kXz X rfl (by first | rfl | exact cup_cup)
  refine lv_aload_n hx hb dX4_init_14 rfl (lv_at hl 0 rfl) ?_
  refine lv_aload_n hx hb dX4_init_15 rfl (lv_at hl 2 rfl) ?_
  refine k_get (index := 19) (j := 6) (ad := ad) (k := 5) (i := a) Z X ((cup_n (by simp)).trans hm) inlX3 rfl (by decide) (inU_14 _ (List.mem_of_getElem? (i := 13) rfl)) (fun _ h => h) (v := .int v) rfl dX4_init_16 ?_
  refine k_putF (index := 24) (j := 2) (k := 8) (i := i) Z X cup_s inlX4 tyX4_ok nmX4 rfl (by decide) (inU_14 _ (List.mem_of_getElem? (i := 14) rfl)) rfl hin rfl (Nat.le_of_ble_eq_true rfl) rfl rfl dX4_init_19 (fun H locs X => ?_)
  have X : kX E G s H locs ad (cup ct 8 i (.inr (7, [.int (nI n), .ref (ad 5 a), .int v, .int 0, .int 0]))) := kXz X rfl (by first | rfl | exact cup_cup)
  refine lv_aload_n hx hb dX4_init_22 rfl (lv_at hl 0 rfl) ?_
  refine lv_iload_n hx hb dX4_init_23 rfl (lv_at hl 3 rfl) ?_
  refine k_putF (index := 25) (j := 3) (k := 8) (i := i) Z X cup_s inlX4 tyX4_ok nmX4 rfl (by decide) (inU_14 _ (List.mem_of_getElem? (i := 15) rfl)) rfl hin rfl (Nat.le_of_ble_eq_true rfl) rfl rfl dX4_init_24 (fun H locs X => ?_)
  have X : kX E G s H locs ad (cup ct 8 i (.inr (7, [.int (nI n), .ref (ad 5 a), .int v, .int x, .int 0]))) := kXz X rfl (by first | rfl | exact cup_cup)
  refine lv_aload_n hx hb dX4_init_27 rfl (lv_at hl 0 rfl) ?_
  refine lv_iconst (v := 0) hx hb dX4_init_28 (by decide) ?_
  refine k_put (index := 28) (j := 4) (k := 8) (i := i) Z X cup_s inlX4 tyX4_ok nmX4 rfl (by decide) (inU_14 _ (List.mem_of_getElem? (i := 16) rfl)) (fun _ h => h) rfl (Nat.le_of_ble_eq_true rfl) rfl rfl dX4_init_29 (fun H locs X => ?_)
  have X : kX E G s H locs ad (cup ct 8 i (.inr (7, [.int (nI n), .ref (ad 5 a), .int v, .int x, .int 0]))) := kXz X rfl (by first | rfl | exact cup_cup)
  exact k_vret Z X hr hlocks (by omega) (by omega) dX4_init_32 ⟨rfl, rfl⟩
theorem dX2_init_0 : decode cX2_init 0 = .ok (.aload_n 0, 1) := by decide +kernel
theorem dX2_init_1 : decode cX2_init 1 = .ok (.invokespecial 3, 3) := by decide +kernel
theorem dX2_init_4 : decode cX2_init 4 = .ok (.aload_n 0, 1) := by decide +kernel
theorem dX2_init_5 : decode cX2_init 5 = .ok (.bipush 12, 2) := by decide +kernel
theorem dX2_init_7 : decode cX2_init 7 = .ok (.newarray .int, 2) := by decide +kernel
theorem dX2_init_9 : decode cX2_init 9 = .ok (.putfield 9, 3) := by decide +kernel
theorem dX2_init_12 : decode cX2_init 12 = .ok (.aload_n 0, 1) := by decide +kernel
theorem dX2_init_13 : decode cX2_init 13 = .ok (.getfield 9, 3) := by decide +kernel
theorem dX2_init_16 : decode cX2_init 16 = .ok (.iconst (-1), 1) := by decide +kernel
theorem dX2_init_17 : decode cX2_init 17 = .ok (.invokestatic 15, 3) := by decide +kernel
theorem dX2_init_20 : decode cX2_init 20 = .ok (.return_, 1) := by decide +kernel
set_option maxHeartbeats 4000000 in
set_option maxRecDepth 100000 in
theorem c_X2_init (l : Launch) (E : State) (G : kG) (ad : kAd) (ct : kCt) (mk mi ma mj : Nat) (hne : ma ≠ mk) (hc : ct mk mi = some (.inr (5, [.null]))) : Met l yX2_init (.code yX2_init cX2_init 1 none :: wsL_law) ({ frames := 3, cells := 1, slots := 12, locals := 80 } : Room) (va_Pc [.ref (ad mk mi)] (kPre E G ad ct)) (kQv E G (fun ad1 ct1 => ∃ z : Nat, ad1 = aup ad ma mj z ∧ ct1 = cup (cup ct ma mj (.inl (G.2.2.1, 12, .inl (fun q => if q < 12 then -1 else 0)))) mk mi (.inr (5, [.ref z])))) 1 12 (kB E.heap.size) := by
  refine Met.ofW (cc := cX2_init) (maxL := 1) (ret := none) (by decide) rfl ?_
  intro p e s m args below meth c s₁ B hml hv
  obtain ⟨rfl, hM, hK, hW0⟩ := hv
  have hlocks := B.notSynchronized
  have hr := B.returns
  have hin : meth.name = "<init>" := (name_of_methodNamed B.named B.method).1
  have Z : kZ p m c cX2_init 1 s _ wsL_law RX2 E G := ⟨⟨B.exec, B.bytes, hml, findClass_of_methodNamed B.named, fun w h => atoms_spec (ws := .code yX2_init cX2_init 1 none :: wsL_law) B.pre w (List.mem_cons_of_mem _ h)⟩, hM, hK⟩
  have hx := Z.1.1
  have hb := Z.1.2.1
  have X := kX.of hW0
  have hl := lv_entry ([.ref (ad mk mi)]) (n := 1) (Nat.le_of_ble_eq_true rfl)
  rw [lg_entry_eq]
  generalize (lg_sl ([.ref (ad mk mi)]) ++ List.replicate (1 - (lg_sl ([.ref (ad mk mi)])).length) Slot.unset).toArray = ls at hl ⊢
  have hl : lv_has ls 1 [(0, .ref (ad mk mi))] := hl
  refine lv_aload_n hx hb dX2_init_0 rfl (lv_at hl 0 rfl) ?_
  refine k_objInit Z (inU_5 _ (List.mem_of_getElem? (i := 22) rfl)) (inU_1 _ (List.mem_of_getElem? (i := 13) rfl)) (inU_1 _ (List.mem_of_getElem? (i := 14) rfl)) hl.1 (Nat.le_of_ble_eq_true rfl) ⟨(Nat.le_of_ble_eq_true rfl), (Nat.le_of_ble_eq_true rfl)⟩ dX2_init_1 ?_
  refine lv_aload_n hx hb dX2_init_4 rfl (lv_at hl 0 rfl) ?_
  refine lv_bipush (v := 12) hx hb dX2_init_5 (by decide) ?_
  refine k_newa (atype := .int) (ty := .int) (t0 := 1) (N' := 12) (a0 := (12, .inl (fun _ => 0))) ma mj Z X (inU_1 _ (List.mem_of_getElem? (i := 3) rfl)) rfl rfl (fun h => h) rfl (by decide) rfl (by decide) (Nat.le_of_ble_eq_true rfl) (Nat.le_of_ble_eq_true rfl) dX2_init_7 (fun z H X => ?_)
  obtain ⟨adN, hadN⟩ : ∃ y, y = aup ad ma mj z := ⟨_, rfl⟩
  obtain ⟨ctN, hctN⟩ : ∃ y, y = cup ct ma mj (.inl (G.2.2.1, 12, .inl (fun _ => 0))) := ⟨_, rfl⟩
  rw [← hadN, ← hctN] at X
  have eN : adN ma mj = z := by rw [hadN]; exact aup_s
  subst eN
  have e0 : adN mk mi = ad mk mi := by rw [hadN]; exact aup_n (fun z => hne z.1.symm)
  rw [← e0] at hl
  have hN : ctN ma mj = some (.inl (G.2.2.1, 12, .inl (fun _ => 0))) := by rw [hctN]; exact cup_s
  have hc : ctN mk mi = some (.inr (5, [.null])) := by rw [hctN]; exact (cup_n (fun z => hne z.1.symm)).trans hc
  refine W.eq (congrArg (fun y => F0 m 9 ls [.ref (adN ma mj), .ref y]) e0.symm) ?_
  refine k_putF (index := 9) (j := 0) (k := mk) (i := mi) Z X hc inlX2 tyX2_ok nmX2 rfl (by decide) (inU_5 _ (List.mem_of_getElem? (i := 23) rfl)) rfl hin rfl (Nat.le_of_ble_eq_true rfl) rfl rfl dX2_init_9 (fun H locs X => ?_)
  refine lv_aload_n hx hb dX2_init_12 rfl (lv_at hl 0 rfl) ?_
  refine k_get (index := 9) (j := 0) (ad := adN) (k := mk) (i := mi) Z X cup_s inlX2 rfl (by decide) (inU_5 _ (List.mem_of_getElem? (i := 23) rfl)) (fun _ h => h) (v := .ref (adN ma mj)) rfl dX2_init_13 ?_
  refine lv_iconst (v := (-1)) hx hb dX2_init_16 (by decide) ?_
  refine k_Rv X (k_runS (As := [.ref (adN ma mj), .int (-1)]) (rest := []) Z X (c_J7_fill_53178 l E G adN (cup ctN mk mi (.inr (5, [.ref (adN ma mj)]))) ma mj 12 (fun _ => 0) (-1) ((cup_n (fun z => hne z.1)).trans hN) (by decide)) (k_cwS 2 Z.1.2.2.2.2 (inU_6 _ (List.mem_of_getElem? (i := 0) rfl)) (inU_6 _ (List.mem_of_getElem? (i := 1) rfl)) (inU_4 _ (List.mem_of_getElem? (i := 18) rfl)) (inU_6 _ (List.mem_of_getElem? (i := 2) rfl)) rfl rfl (by decide +kernel) ⟨Nat.le_of_ble_eq_true rfl, Nat.le_of_ble_eq_true rfl⟩) rfl hl.1 rfl (Nat.le_of_ble_eq_true rfl) dX2_init_17 ⟨(by first | exact Nat.le_of_ble_eq_true rfl | (show _ ≤ (_ : Nat); simp only [headSpec]; omega)), (by first | exact Nat.le_of_ble_eq_true rfl | (show _ ≤ (_ : Nat); simp only [headSpec]; omega))⟩) (fun ad1 ct1 H locs hp X => ?_)
  obtain ⟨ha_, hb_⟩ := hp
  rw [← ha_, hb_] at X
  exact k_vret Z X hr hlocks (by omega) (by omega) dX2_init_20 ⟨_, hadN, by rw [hctN]; exact (cup_sw (fun z => hne z.1)).trans (by rw [cup_cup])⟩
