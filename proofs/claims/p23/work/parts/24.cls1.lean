/-! MARKS, USERS, TASKS, THE LOG: their own methods -/
def sF (S : kSt) (f : Nat) (g : Nat → Int32) : kSt := (fun h j => if h = f then g j else S.1 h j, S.2)
theorem sF_2g {S : kSt} {f g : Nat} {u : Nat → Int32} : (sF S f u).2 g = S.2 g := rfl
theorem sF_fn {S : kSt} {f g : Nat} {u : Nat → Int32} (h : g ≠ f) : (sF S f u).1 g = S.1 g := by
  funext j
  simp only [sF]
  rw [if_neg h]
theorem sF_s {S : kSt} {f : Nat} {u : Nat → Int32} : (sF S f u).1 f = u := by
  funext j
  simp only [sF, if_true]
theorem sF_F {S : kSt} {f : Nat} {u v : Nat → Int32} : sF (sF S f u) f v = sF S f v := by
  refine Prod.ext ?_ rfl
  funext g j
  simp only [sF]
  split <;> rfl
theorem sF_id {S : kSt} {f : Nat} : sF S f (S.1 f) = S := by
  refine Prod.ext ?_ rfl
  funext g j
  simp only [sF]
  split
  · rename_i h; rw [h]
  · rfl
theorem cs_anew {G : kG} {S T : kSt} {o : Int64} {ad : kAd} (u : Nat → Int32) : cup (cto G S T o ad) 15 0 (.inl (G.2.2.1, 12, .inl u)) = cto G (sF S 18 u) T o ad := by
  funext k i9
  match k with
  | 0 => exact (cup_n (fun z => absurd z.1 (by decide))).trans (ctE_0 (sF_fn (by decide))).symm
  | 1 => exact (cup_n (fun z => absurd z.1 (by decide))).trans (ctE_1 (sF_fn (by decide)) sF_2g sF_2g).symm
  | 2 => exact (cup_n (fun z => absurd z.1 (by decide))).trans (ctE_2 sF_2g sF_2g).symm
  | 3 => exact (cup_n (fun z => absurd z.1 (by decide))).trans (ctE_3 (sF_fn (by decide)) (sF_fn (by decide))).symm
  | 4 => exact (cup_n (fun z => absurd z.1 (by decide))).trans (ctE_4 (sF_fn (by decide)) (sF_fn (by decide)) sF_2g).symm
  | 5 => exact (cup_n (fun z => absurd z.1 (by decide))).trans (ctE_5 (sF_fn (by decide)) (sF_fn (by decide)) (sF_fn (by decide)) (sF_fn (by decide)) sF_2g sF_2g sF_2g).symm
  | 6 => exact (cup_n (fun z => absurd z.1 (by decide))).trans (ctE_6 sF_2g).symm
  | 7 => exact (cup_n (fun z => absurd z.1 (by decide))).trans (ctE_7 (sF_fn (ne_b (by decide))) sF_2g).symm
  | 8 => exact (cup_n (fun z => absurd z.1 (by decide))).trans (ctE_8 (sF_fn (by decide)) (sF_fn (by decide)) (sF_fn (by decide)) sF_2g sF_2g).symm
  | 9 => exact (cup_n (fun z => absurd z.1 (by decide))).trans (ctE_9 (sF_fn (by decide)) (sF_fn (by decide)) sF_2g sF_2g sF_2g).symm
  | 10 => exact (cup_n (fun z => absurd z.1 (by decide))).trans (ctE_10 sF_2g).symm
  | 11 => exact (cup_n (fun z => absurd z.1 (by decide))).trans (ctE_11 (sF_fn (by decide)) (sF_fn (by decide)) sF_2g sF_2g sF_2g).symm
  | 12 => exact (cup_n (fun z => absurd z.1 (by decide))).trans (ctE_12 sF_2g).symm
  | 13 => exact (cup_n (fun z => absurd z.1 (by decide))).trans (ctE_13 (fun h9 => sF_fn (ne_d h9 (by decide)))).symm
  | 14 => exact (cup_n (fun z => absurd z.1 (by decide))).trans (ctE_14 ).symm
  | 15 =>
    by_cases h9 : i9 = 0
    · subst h9; rw [cup_s]; simp only [cto]; rw [if_pos trivial, sF_s]
    · rw [cup_n (fun z => h9 z.2)]; simp only [cto, if_neg h9]
  | 16 => exact (cup_n (fun z => absurd z.1 (by decide))).trans (ctE_16 ).symm
  | 17 => exact (cup_n (fun z => absurd z.1 (by decide))).trans (ctE_17 ).symm
  | 18 => exact (cup_n (fun z => absurd z.1 (by decide))).trans (ctE_18 ).symm
  | k9 + 19 => exact (cup_n (fun z => by have := z.1; omega)).trans ctE_19
/-- the log's first n lines read for message m, over what was there -/
def rpl (S : kSt) (m : Nat) (b : Nat → Int32) : Nat → Nat → Int32
  | 0 => fun q => if q < 12 then -1 else b q
  | n + 1 => if S.1 15 n = nI m then (if S.1 17 n = 2 then (fun q => if q < 12 then -1 else rpl S m b n q) else upd (rpl S m b n) (cl (S.1 16 n)) (S.1 17 n)) else rpl S m b n
/-- what a line of the log tells of a mark: whose it is -/
def okLg (S : kSt) : Prop := S.2 0 4 ≤ 512 ∧ ∀ i, i < S.2 0 4 → S.1 17 i ≠ 2 → ∃ u, u < 12 ∧ S.1 16 i = nI u
theorem dX2_kindOf_0 : decode cX2_kindOf 0 = .ok (.iload_n 1, 1) := by decide +kernel
theorem dX2_kindOf_1 : decode cX2_kindOf 1 = .ok (.ifCond .lt 21, 3) := by decide +kernel
theorem dX2_kindOf_4 : decode cX2_kindOf 4 = .ok (.iload_n 1, 1) := by decide +kernel
theorem dX2_kindOf_5 : decode cX2_kindOf 5 = .ok (.aload_n 0, 1) := by decide +kernel
theorem dX2_kindOf_6 : decode cX2_kindOf 6 = .ok (.getfield 9, 3) := by decide +kernel
theorem dX2_kindOf_9 : decode cX2_kindOf 9 = .ok (.arraylength, 1) := by decide +kernel
theorem dX2_kindOf_10 : decode cX2_kindOf 10 = .ok (.if_icmp .ge 12, 3) := by decide +kernel
theorem dX2_kindOf_13 : decode cX2_kindOf 13 = .ok (.aload_n 0, 1) := by decide +kernel
theorem dX2_kindOf_14 : decode cX2_kindOf 14 = .ok (.getfield 9, 3) := by decide +kernel
theorem dX2_kindOf_17 : decode cX2_kindOf 17 = .ok (.iload_n 1, 1) := by decide +kernel
theorem dX2_kindOf_18 : decode cX2_kindOf 18 = .ok (.iaload, 1) := by decide +kernel
theorem dX2_kindOf_19 : decode cX2_kindOf 19 = .ok (.goto 4, 3) := by decide +kernel
theorem dX2_kindOf_22 : decode cX2_kindOf 22 = .ok (.iconst (-1), 1) := by decide +kernel
theorem dX2_kindOf_23 : decode cX2_kindOf 23 = .ok (.ireturn, 1) := by decide +kernel
set_option maxHeartbeats 4000000 in
set_option maxRecDepth 100000 in
theorem c_X2_kindOf (l : Launch) (E : State) (G : kG) (ad : kAd) (ct : kCt) (mk mi ma mj u : Nat) (kd : Nat → Int32) (hm : ct mk mi = some (.inr (5, [.ref (ad ma mj)]))) (ha : ct ma mj = some (.inl (G.2.2.1, 12, .inl kd))) (hu : u < 12) : Met l yX2_kindOf (.code yX2_kindOf cX2_kindOf 2 (some .int) :: wsL_law) ({ frames := 1, cells := 0, slots := 0, locals := 20 } : Room) (va_Pc [.ref (ad mk mi), .int (nI u)] (kPre E G ad ct)) (kQi E G (fun r ad1 ct1 => r = kd u ∧ ad = ad1 ∧ ct1 = ct)) 0 0 (kB E.heap.size) := by
  refine Met.ofW (cc := cX2_kindOf) (maxL := 2) (ret := (some .int)) (by decide) rfl ?_
  intro p e s m args below meth c s₁ B hml hv
  obtain ⟨rfl, hM, hK, hW0⟩ := hv
  have hlocks := B.notSynchronized
  have hr := B.returns
  have Z : kZ p m c cX2_kindOf 2 s _ wsL_law RX2 E G := ⟨⟨B.exec, B.bytes, hml, findClass_of_methodNamed B.named, fun w h => atoms_spec (ws := .code yX2_kindOf cX2_kindOf 2 (some .int) :: wsL_law) B.pre w (List.mem_cons_of_mem _ h)⟩, hM, hK⟩
  have hx := Z.1.1
  have hb := Z.1.2.1
  have X := kX.of hW0
  have hl := lv_entry ([.ref (ad mk mi), .int (nI u)]) (n := 2) (Nat.le_of_ble_eq_true rfl)
  rw [lg_entry_eq]
  generalize (lg_sl ([.ref (ad mk mi), .int (nI u)]) ++ List.replicate (2 - (lg_sl ([.ref (ad mk mi), .int (nI u)])).length) Slot.unset).toArray = ls at hl ⊢
  have hl : lv_has ls 2 [(0, .ref (ad mk mi)), (1, .int (nI u))] := hl
  refine lv_iload_n hx hb dX2_kindOf_0 rfl (lv_at hl 1 rfl) ?_
  refine lv_if_lt (tgt := 22) hx hb dX2_kindOf_1 (by decide) (fun c_1 => ?_) (fun c_1 => ?_)
  · exact absurd c_1 (nI_pos (by omega))
  · refine lv_iload_n hx hb dX2_kindOf_4 rfl (lv_at hl 1 rfl) ?_
    refine lv_aload_n hx hb dX2_kindOf_5 rfl (lv_at hl 0 rfl) ?_
    refine k_get (index := 9) (j := 0) (ad := ad) (k := mk) (i := mi) Z X hm inlX2 rfl (by decide) (inU_5 _ (List.mem_of_getElem? (i := 23) rfl)) (fun _ h => h) (v := .ref (ad ma mj)) rfl dX2_kindOf_6 ?_
    refine k_len (ad := ad) (k := ma) (i := mj) (t0 := 1) (v := nI 12) Z X ha rfl rfl dX2_kindOf_9 ?_
    refine lv_icmp_ge (tgt := 22) hx hb dX2_kindOf_10 (by decide) (fun c_10 => ?_) (fun c_10 => ?_)
    · exact absurd ((nI_leI (by decide) (by omega)).mp c_10) (by omega)
    · refine lv_aload_n hx hb dX2_kindOf_13 rfl (lv_at hl 0 rfl) ?_
      refine k_get (index := 9) (j := 0) (ad := ad) (k := mk) (i := mi) Z X hm inlX2 rfl (by decide) (inU_5 _ (List.mem_of_getElem? (i := 23) rfl)) (fun _ h => h) (v := .ref (ad ma mj)) rfl dX2_kindOf_14 ?_
      refine lv_iload_n hx hb dX2_kindOf_17 rfl (lv_at hl 1 rfl) ?_
      refine k_ild (ad := ad) (k := ma) (i := mj) Z X ha (vp_in_nI (by first | assumption | omega) (by decide)) dX2_kindOf_18 ?_
      refine lv_topi (fun x_18 e_18 => ?_)
      obtain rfl : x_18 = kd u := e_18.trans (by first | (simp only [nI_clamp (show u < 2 ^ 31 by omega)]; done) | (simp only [nI_clamp (show u < 2 ^ 31 by omega)]; rfl) | (simp only [nI_clamp (show u < 2 ^ 31 by omega)]; simp [sI, sN]; done))
      refine lv_goto (tgt := 23) hx hb dX2_kindOf_19 (by decide) ?_
      exact k_iret Z X hr hlocks rfl (by omega) (by omega) dX2_kindOf_23 ⟨rfl, rfl, rfl⟩
theorem dX2_put_0 : decode cX2_put 0 = .ok (.iload_n 1, 1) := by decide +kernel
theorem dX2_put_1 : decode cX2_put 1 = .ok (.ifCond .lt 19, 3) := by decide +kernel
theorem dX2_put_4 : decode cX2_put 4 = .ok (.iload_n 1, 1) := by decide +kernel
theorem dX2_put_5 : decode cX2_put 5 = .ok (.aload_n 0, 1) := by decide +kernel
theorem dX2_put_6 : decode cX2_put 6 = .ok (.getfield 9, 3) := by decide +kernel
theorem dX2_put_9 : decode cX2_put 9 = .ok (.arraylength, 1) := by decide +kernel
theorem dX2_put_10 : decode cX2_put 10 = .ok (.if_icmp .ge 10, 3) := by decide +kernel
theorem dX2_put_13 : decode cX2_put 13 = .ok (.aload_n 0, 1) := by decide +kernel
theorem dX2_put_14 : decode cX2_put 14 = .ok (.getfield 9, 3) := by decide +kernel
theorem dX2_put_17 : decode cX2_put 17 = .ok (.iload_n 1, 1) := by decide +kernel
theorem dX2_put_18 : decode cX2_put 18 = .ok (.iload_n 2, 1) := by decide +kernel
theorem dX2_put_19 : decode cX2_put 19 = .ok (.iastore, 1) := by decide +kernel
theorem dX2_put_20 : decode cX2_put 20 = .ok (.return_, 1) := by decide +kernel
set_option maxHeartbeats 4000000 in
set_option maxRecDepth 100000 in
theorem c_X2_put (l : Launch) (E : State) (G : kG) (ad : kAd) (ct : kCt) (mk mi ma mj u : Nat) (kd : Nat → Int32) (hm : ct mk mi = some (.inr (5, [.ref (ad ma mj)]))) (ha : ct ma mj = some (.inl (G.2.2.1, 12, .inl kd))) (hu : u < 12) (v : Int32) : Met l yX2_put (.code yX2_put cX2_put 3 none :: wsL_law) ({ frames := 1, cells := 0, slots := 0, locals := 20 } : Room) (va_Pc [.ref (ad mk mi), .int (nI u), .int v] (kPre E G ad ct)) (kQv E G (fun ad1 ct1 => ad = ad1 ∧ ct1 = cup ct ma mj (.inl (G.2.2.1, 12, .inl (upd kd u v))))) 0 0 (kB E.heap.size) := by
  refine Met.ofW (cc := cX2_put) (maxL := 3) (ret := none) (by decide) rfl ?_
  intro p e s m args below meth c s₁ B hml hv
  obtain ⟨rfl, hM, hK, hW0⟩ := hv
  have hlocks := B.notSynchronized
  have hr := B.returns
  have Z : kZ p m c cX2_put 3 s _ wsL_law RX2 E G := ⟨⟨B.exec, B.bytes, hml, findClass_of_methodNamed B.named, fun w h => atoms_spec (ws := .code yX2_put cX2_put 3 none :: wsL_law) B.pre w (List.mem_cons_of_mem _ h)⟩, hM, hK⟩
  have hx := Z.1.1
  have hb := Z.1.2.1
  have X := kX.of hW0
  have hl := lv_entry ([.ref (ad mk mi), .int (nI u), .int v]) (n := 3) (Nat.le_of_ble_eq_true rfl)
  rw [lg_entry_eq]
  generalize (lg_sl ([.ref (ad mk mi), .int (nI u), .int v]) ++ List.replicate (3 - (lg_sl ([.ref (ad mk mi), .int (nI u), .int v])).length) Slot.unset).toArray = ls at hl ⊢
  have hl : lv_has ls 3 [(0, .ref (ad mk mi)), (1, .int (nI u)), (2, .int v)] := hl
  refine lv_iload_n hx hb dX2_put_0 rfl (lv_at hl 1 rfl) ?_
  refine lv_if_lt (tgt := 20) hx hb dX2_put_1 (by decide) (fun c_1 => ?_) (fun c_1 => ?_)
  · exact absurd c_1 (nI_pos (by omega))
  · refine lv_iload_n hx hb dX2_put_4 rfl (lv_at hl 1 rfl) ?_
    refine lv_aload_n hx hb dX2_put_5 rfl (lv_at hl 0 rfl) ?_
    refine k_get (index := 9) (j := 0) (ad := ad) (k := mk) (i := mi) Z X hm inlX2 rfl (by decide) (inU_5 _ (List.mem_of_getElem? (i := 23) rfl)) (fun _ h => h) (v := .ref (ad ma mj)) rfl dX2_put_6 ?_
    refine k_len (ad := ad) (k := ma) (i := mj) (t0 := 1) (v := nI 12) Z X ha rfl rfl dX2_put_9 ?_
    refine lv_icmp_ge (tgt := 20) hx hb dX2_put_10 (by decide) (fun c_10 => ?_) (fun c_10 => ?_)
    · exact absurd ((nI_leI (by decide) (by omega)).mp c_10) (by omega)
    · refine lv_aload_n hx hb dX2_put_13 rfl (lv_at hl 0 rfl) ?_
      refine k_get (index := 9) (j := 0) (ad := ad) (k := mk) (i := mi) Z X hm inlX2 rfl (by decide) (inU_5 _ (List.mem_of_getElem? (i := 23) rfl)) (fun _ h => h) (v := .ref (ad ma mj)) rfl dX2_put_14 ?_
      refine lv_iload_n hx hb dX2_put_17 rfl (lv_at hl 1 rfl) ?_
      refine lv_iload_n hx hb dX2_put_18 rfl (lv_at hl 2 rfl) ?_
      refine k_ist (ad := ad) (k := ma) (i := mj) Z X ha (vp_in_nI (by first | assumption | omega) (by decide)) dX2_put_19 (fun H locs X => ?_)
      rw [show (nI u).toNatClampNeg = u from nI_clamp (by omega)] at X
      exact k_vret Z X hr hlocks (by omega) (by omega) dX2_put_20 ⟨rfl, rfl⟩
theorem dX2_clear_0 : decode cX2_clear 0 = .ok (.aload_n 0, 1) := by decide +kernel
theorem dX2_clear_1 : decode cX2_clear 1 = .ok (.getfield 9, 3) := by decide +kernel
theorem dX2_clear_4 : decode cX2_clear 4 = .ok (.iconst (-1), 1) := by decide +kernel
theorem dX2_clear_5 : decode cX2_clear 5 = .ok (.invokestatic 15, 3) := by decide +kernel
theorem dX2_clear_8 : decode cX2_clear 8 = .ok (.return_, 1) := by decide +kernel
set_option maxHeartbeats 4000000 in
set_option maxRecDepth 100000 in
theorem c_X2_clear (l : Launch) (E : State) (G : kG) (ad : kAd) (ct : kCt) (mk mi ma mj : Nat) (kd : Nat → Int32) (hm : ct mk mi = some (.inr (5, [.ref (ad ma mj)]))) (ha : ct ma mj = some (.inl (G.2.2.1, 12, .inl kd))) : Met l yX2_clear (.code yX2_clear cX2_clear 1 none :: wsL_law) ({ frames := 2, cells := 0, slots := 0, locals := 60 } : Room) (va_Pc [.ref (ad mk mi)] (kPre E G ad ct)) (kQv E G (fun ad1 ct1 => ad = ad1 ∧ ct1 = cup ct ma mj (.inl (G.2.2.1, 12, .inl (fun q => if q < 12 then -1 else kd q))))) 0 0 (kB E.heap.size) := by
  refine Met.ofW (cc := cX2_clear) (maxL := 1) (ret := none) (by decide) rfl ?_
  intro p e s m args below meth c s₁ B hml hv
  obtain ⟨rfl, hM, hK, hW0⟩ := hv
  have hlocks := B.notSynchronized
  have hr := B.returns
  have Z : kZ p m c cX2_clear 1 s _ wsL_law RX2 E G := ⟨⟨B.exec, B.bytes, hml, findClass_of_methodNamed B.named, fun w h => atoms_spec (ws := .code yX2_clear cX2_clear 1 none :: wsL_law) B.pre w (List.mem_cons_of_mem _ h)⟩, hM, hK⟩
  have hx := Z.1.1
  have hb := Z.1.2.1
  have X := kX.of hW0
  have hl := lv_entry ([.ref (ad mk mi)]) (n := 1) (Nat.le_of_ble_eq_true rfl)
  rw [lg_entry_eq]
  generalize (lg_sl ([.ref (ad mk mi)]) ++ List.replicate (1 - (lg_sl ([.ref (ad mk mi)])).length) Slot.unset).toArray = ls at hl ⊢
  have hl : lv_has ls 1 [(0, .ref (ad mk mi))] := hl
  refine lv_aload_n hx hb dX2_clear_0 rfl (lv_at hl 0 rfl) ?_
  refine k_get (index := 9) (j := 0) (ad := ad) (k := mk) (i := mi) Z X hm inlX2 rfl (by decide) (inU_5 _ (List.mem_of_getElem? (i := 23) rfl)) (fun _ h => h) (v := .ref (ad ma mj)) rfl dX2_clear_1 ?_
  refine lv_iconst (v := (-1)) hx hb dX2_clear_4 (by decide) ?_
  refine k_Rv X (k_runS (As := [.ref (ad ma mj), .int (-1)]) (rest := []) Z X (c_J7_fill_53178 l E G ad ct ma mj 12 kd (-1) ha (by decide)) (k_cwS 2 Z.1.2.2.2.2 (inU_6 _ (List.mem_of_getElem? (i := 0) rfl)) (inU_6 _ (List.mem_of_getElem? (i := 1) rfl)) (inU_4 _ (List.mem_of_getElem? (i := 18) rfl)) (inU_6 _ (List.mem_of_getElem? (i := 2) rfl)) rfl rfl (by decide +kernel) ⟨Nat.le_of_ble_eq_true rfl, Nat.le_of_ble_eq_true rfl⟩) rfl hl.1 rfl (Nat.le_of_ble_eq_true rfl) dX2_clear_5 ⟨(by first | exact Nat.le_of_ble_eq_true rfl | (show _ ≤ (_ : Nat); simp only [headSpec]; omega)), (by first | exact Nat.le_of_ble_eq_true rfl | (show _ ≤ (_ : Nat); simp only [headSpec]; omega))⟩) (fun ad1 ct1 H locs hp X => ?_)
  obtain ⟨ha_, hb_⟩ := hp
  rw [← ha_, hb_] at X
  exact k_vret Z X hr hlocks (by omega) (by omega) dX2_clear_8 ⟨rfl, rfl⟩
theorem dX6_isGoneAt_0 : decode cX6_isGoneAt 0 = .ok (.aload_n 0, 1) := by decide +kernel
theorem dX6_isGoneAt_1 : decode cX6_isGoneAt 1 = .ok (.getfield 18, 3) := by decide +kernel
theorem dX6_isGoneAt_4 : decode cX6_isGoneAt 4 = .ok (.iconst (-1), 1) := by decide +kernel
theorem dX6_isGoneAt_5 : decode cX6_isGoneAt 5 = .ok (.if_icmp .eq 15, 3) := by decide +kernel
theorem dX6_isGoneAt_8 : decode cX6_isGoneAt 8 = .ok (.iload_n 1, 1) := by decide +kernel
theorem dX6_isGoneAt_9 : decode cX6_isGoneAt 9 = .ok (.aload_n 0, 1) := by decide +kernel
theorem dX6_isGoneAt_10 : decode cX6_isGoneAt 10 = .ok (.getfield 18, 3) := by decide +kernel
theorem dX6_isGoneAt_13 : decode cX6_isGoneAt 13 = .ok (.if_icmp .lt 7, 3) := by decide +kernel
theorem dX6_isGoneAt_16 : decode cX6_isGoneAt 16 = .ok (.iconst 1, 1) := by decide +kernel
theorem dX6_isGoneAt_17 : decode cX6_isGoneAt 17 = .ok (.goto 4, 3) := by decide +kernel
theorem dX6_isGoneAt_20 : decode cX6_isGoneAt 20 = .ok (.iconst 0, 1) := by decide +kernel
theorem dX6_isGoneAt_21 : decode cX6_isGoneAt 21 = .ok (.ireturn, 1) := by decide +kernel
set_option maxHeartbeats 4000000 in
set_option maxRecDepth 100000 in
theorem c_X6_isGoneAt (l : Launch) (E : State) (G : kG) (S T : kSt) (o : Int64) (ad : kAd) (j : Nat) (hj : j < S.2 0 0) : Met l yX6_isGoneAt (.code yX6_isGoneAt cX6_isGoneAt 2 (some .boolean) :: wsL_law) ({ frames := 1, cells := 0, slots := 0, locals := 20 } : Room) (va_Pc [.ref (ad 4 j), .int (S.1 0 0)] (kPre E G ad (cto G S T o ad))) (kQi E G (fun r ad1 ct1 => r = bI (gone S j) ∧ ad = ad1 ∧ ct1 = cto G S T o ad)) 0 0 (kB E.heap.size) := by
  refine Met.ofW (cc := cX6_isGoneAt) (maxL := 2) (ret := (some .boolean)) (by decide) rfl ?_
  intro p e s m args below meth c s₁ B hml hv
  obtain ⟨rfl, hM, hK, hW0⟩ := hv
  have hlocks := B.notSynchronized
  have hr := B.returns
  have Z : kZ p m c cX6_isGoneAt 2 s _ wsL_law RX6 E G := ⟨⟨B.exec, B.bytes, hml, findClass_of_methodNamed B.named, fun w h => atoms_spec (ws := .code yX6_isGoneAt cX6_isGoneAt 2 (some .boolean) :: wsL_law) B.pre w (List.mem_cons_of_mem _ h)⟩, hM, hK⟩
  have hx := Z.1.1
  have hb := Z.1.2.1
  have X := kX.of hW0
  have hl := lv_entry ([.ref (ad 4 j), .int (S.1 0 0)]) (n := 2) (Nat.le_of_ble_eq_true rfl)
  rw [lg_entry_eq]
  generalize (lg_sl ([.ref (ad 4 j), .int (S.1 0 0)]) ++ List.replicate (2 - (lg_sl ([.ref (ad 4 j), .int (S.1 0 0)])).length) Slot.unset).toArray = ls at hl ⊢
  have hl : lv_has ls 2 [(0, .ref (ad 4 j)), (1, .int (S.1 0 0))] := hl
  refine lv_aload_n hx hb dX6_isGoneAt_0 rfl (lv_at hl 0 rfl) ?_
  refine k_get (index := 18) (j := 2) (ad := ad) (k := 4) (i := j) Z X (ct_4 (by first | assumption | omega | decide)) inlX6 rfl (by decide) (inU_7 _ (List.mem_of_getElem? (i := 12) rfl)) (fun _ h => h) (v := .int (S.1 2 j)) rfl dX6_isGoneAt_1 ?_
  refine lv_iconst (v := (-1)) hx hb dX6_isGoneAt_4 (by decide) ?_
  refine lv_icmp_eq (tgt := 20) hx hb dX6_isGoneAt_5 (by decide) (fun c_5 => ?_) (fun c_5 => ?_)
  · refine lv_iconst (v := 0) hx hb dX6_isGoneAt_20 (by decide) ?_
    exact k_iret Z X hr hlocks rfl (by omega) (by omega) dX6_isGoneAt_21 ⟨bI_f (by simp [gone, c_5]), rfl, rfl⟩
  · refine lv_iload_n hx hb dX6_isGoneAt_8 rfl (lv_at hl 1 rfl) ?_
    refine lv_aload_n hx hb dX6_isGoneAt_9 rfl (lv_at hl 0 rfl) ?_
    refine k_get (index := 18) (j := 2) (ad := ad) (k := 4) (i := j) Z X (ct_4 (by first | assumption | omega | decide)) inlX6 rfl (by decide) (inU_7 _ (List.mem_of_getElem? (i := 12) rfl)) (fun _ h => h) (v := .int (S.1 2 j)) rfl dX6_isGoneAt_10 ?_
    refine lv_icmp_lt (tgt := 20) hx hb dX6_isGoneAt_13 (by decide) (fun c_13 => ?_) (fun c_13 => ?_)
    · refine lv_iconst (v := 0) hx hb dX6_isGoneAt_20 (by decide) ?_
      exact k_iret Z X hr hlocks rfl (by omega) (by omega) dX6_isGoneAt_21 ⟨bI_f (by simp [gone, c_5, c_13]), rfl, rfl⟩
    · refine lv_iconst (v := 1) hx hb dX6_isGoneAt_16 (by decide) ?_
      refine lv_goto (tgt := 21) hx hb dX6_isGoneAt_17 (by decide) ?_
      exact k_iret Z X hr hlocks rfl (by omega) (by omega) dX6_isGoneAt_21 ⟨bI_t (by simp [gone, c_5, c_13]), rfl, rfl⟩
theorem dX6_countsAt_0 : decode cX6_countsAt 0 = .ok (.aload_n 0, 1) := by decide +kernel
theorem dX6_countsAt_1 : decode cX6_countsAt 1 = .ok (.getfield 15, 3) := by decide +kernel
theorem dX6_countsAt_4 : decode cX6_countsAt 4 = .ok (.ifCond .eq 15, 3) := by decide +kernel
theorem dX6_countsAt_7 : decode cX6_countsAt 7 = .ok (.aload_n 0, 1) := by decide +kernel
theorem dX6_countsAt_8 : decode cX6_countsAt 8 = .ok (.iload_n 1, 1) := by decide +kernel
theorem dX6_countsAt_9 : decode cX6_countsAt 9 = .ok (.invokevirtual 21, 3) := by decide +kernel
theorem dX6_countsAt_12 : decode cX6_countsAt 12 = .ok (.ifCond .ne 7, 3) := by decide +kernel
theorem dX6_countsAt_15 : decode cX6_countsAt 15 = .ok (.iconst 1, 1) := by decide +kernel
theorem dX6_countsAt_16 : decode cX6_countsAt 16 = .ok (.goto 4, 3) := by decide +kernel
theorem dX6_countsAt_19 : decode cX6_countsAt 19 = .ok (.iconst 0, 1) := by decide +kernel
theorem dX6_countsAt_20 : decode cX6_countsAt 20 = .ok (.ireturn, 1) := by decide +kernel
set_option maxHeartbeats 4000000 in
set_option maxRecDepth 100000 in
theorem c_X6_countsAt (l : Launch) (E : State) (G : kG) (S T : kSt) (o : Int64) (ad : kAd) (j : Nat) (hj : j < S.2 0 0) : Met l yX6_countsAt (.code yX6_countsAt cX6_countsAt 2 (some .boolean) :: wsL_law) ({ frames := 2, cells := 0, slots := 0, locals := 50 } : Room) (va_Pc [.ref (ad 4 j), .int (S.1 0 0)] (kPre E G ad (cto G S T o ad))) (kQi E G (fun r ad1 ct1 => r = bI (decide (S.1 1 j ≠ 0) && !gone S j) ∧ ad = ad1 ∧ ct1 = cto G S T o ad)) 0 0 (kB E.heap.size) := by
  refine Met.ofW (cc := cX6_countsAt) (maxL := 2) (ret := (some .boolean)) (by decide) rfl ?_
  intro p e s m args below meth c s₁ B hml hv
  obtain ⟨rfl, hM, hK, hW0⟩ := hv
  have hlocks := B.notSynchronized
  have hr := B.returns
  have Z : kZ p m c cX6_countsAt 2 s _ wsL_law RX6 E G := ⟨⟨B.exec, B.bytes, hml, findClass_of_methodNamed B.named, fun w h => atoms_spec (ws := .code yX6_countsAt cX6_countsAt 2 (some .boolean) :: wsL_law) B.pre w (List.mem_cons_of_mem _ h)⟩, hM, hK⟩
  have hx := Z.1.1
  have hb := Z.1.2.1
  have X := kX.of hW0
  have hl := lv_entry ([.ref (ad 4 j), .int (S.1 0 0)]) (n := 2) (Nat.le_of_ble_eq_true rfl)
  rw [lg_entry_eq]
  generalize (lg_sl ([.ref (ad 4 j), .int (S.1 0 0)]) ++ List.replicate (2 - (lg_sl ([.ref (ad 4 j), .int (S.1 0 0)])).length) Slot.unset).toArray = ls at hl ⊢
  have hl : lv_has ls 2 [(0, .ref (ad 4 j)), (1, .int (S.1 0 0))] := hl
  refine lv_aload_n hx hb dX6_countsAt_0 rfl (lv_at hl 0 rfl) ?_
  refine k_get (index := 15) (j := 1) (ad := ad) (k := 4) (i := j) Z X (ct_4 (by first | assumption | omega | decide)) inlX6 rfl (by decide) (inU_7 _ (List.mem_of_getElem? (i := 11) rfl)) (fun _ h => h) (v := .int (S.1 1 j)) rfl dX6_countsAt_1 ?_
  refine lv_if_eq (tgt := 19) hx hb dX6_countsAt_4 (by decide) (fun c_4 => ?_) (fun c_4 => ?_)
  · refine lv_iconst (v := 0) hx hb dX6_countsAt_19 (by decide) ?_
    exact k_iret Z X hr hlocks rfl (by omega) (by omega) dX6_countsAt_20 ⟨bI_f (by simp [Bool.and_eq_true, c_4]), rfl, rfl⟩
  · refine lv_aload_n hx hb dX6_countsAt_7 rfl (lv_at hl 0 rfl) ?_
    refine lv_iload_n hx hb dX6_countsAt_8 rfl (lv_at hl 1 rfl) ?_
    refine k_Ri X (k_runV (As := [.int (S.1 0 0)]) (rest := []) Z X (c_X6_isGoneAt l E G S T o ad j hj) (k_cwV 1 Z.1.2.2.2.2 (inU_9 _ (List.mem_of_getElem? (i := 23) rfl)) (inU_10 _ (List.mem_of_getElem? (i := 0) rfl)) (inU_10 _ (List.mem_of_getElem? (i := 1) rfl)) (inU_6 _ (List.mem_of_getElem? (i := 14) rfl)) (inU_10 _ (List.mem_of_getElem? (i := 2) rfl)) rfl rfl (by decide +kernel) ⟨Nat.le_of_ble_eq_true rfl, Nat.le_of_ble_eq_true rfl⟩) (k_recv Z X (ct_4 (by first | assumption | omega | decide)) rfl) rfl hl.1 rfl (Nat.le_of_ble_eq_true rfl) dX6_countsAt_9 ⟨(by first | exact Nat.le_of_ble_eq_true rfl | (show _ ≤ (_ : Nat); simp only [headSpec]; omega)), (by first | exact Nat.le_of_ble_eq_true rfl | (show _ ≤ (_ : Nat); simp only [headSpec]; omega))⟩) (fun r_9 ad1 ct1 H locs hp X => ?_)
    obtain ⟨rfl, ha_, hb_⟩ := hp
    rw [← ha_, hb_] at X
    refine lv_if_ne (tgt := 19) hx hb dX6_countsAt_12 (by decide) (fun c_12 => ?_) (fun c_12 => ?_)
    · have c_12 : gone S j = true := bI_1 c_12
      refine lv_iconst (v := 0) hx hb dX6_countsAt_19 (by decide) ?_
      exact k_iret Z X hr hlocks rfl (by omega) (by omega) dX6_countsAt_20 ⟨bI_f (by simp [Bool.and_eq_true, c_4, c_12]), rfl, rfl⟩
    · have c_12 : gone S j = false := bI_0 c_12
      refine lv_iconst (v := 1) hx hb dX6_countsAt_15 (by decide) ?_
      refine lv_goto (tgt := 20) hx hb dX6_countsAt_16 (by decide) ?_
      exact k_iret Z X hr hlocks rfl (by omega) (by omega) dX6_countsAt_20 ⟨bI_t (by simp [Bool.and_eq_true, c_4, c_12]), rfl, rfl⟩
theorem dX5_isOpenFor_0 : decode cX5_isOpenFor 0 = .ok (.aload_n 0, 1) := by decide +kernel
theorem dX5_isOpenFor_1 : decode cX5_isOpenFor 1 = .ok (.getfield 52, 3) := by decide +kernel
theorem dX5_isOpenFor_4 : decode cX5_isOpenFor 4 = .ok (.ifCond .ne 21, 3) := by decide +kernel
theorem dX5_isOpenFor_7 : decode cX5_isOpenFor 7 = .ok (.aload_n 0, 1) := by decide +kernel
theorem dX5_isOpenFor_8 : decode cX5_isOpenFor 8 = .ok (.getfield 21, 3) := by decide +kernel
theorem dX5_isOpenFor_11 : decode cX5_isOpenFor 11 = .ok (.getfield 41, 3) := by decide +kernel
theorem dX5_isOpenFor_14 : decode cX5_isOpenFor 14 = .ok (.aload_n 1, 1) := by decide +kernel
theorem dX5_isOpenFor_15 : decode cX5_isOpenFor 15 = .ok (.getfield 41, 3) := by decide +kernel
theorem dX5_isOpenFor_18 : decode cX5_isOpenFor 18 = .ok (.if_icmp .ne 7, 3) := by decide +kernel
theorem dX5_isOpenFor_21 : decode cX5_isOpenFor 21 = .ok (.iconst 1, 1) := by decide +kernel
theorem dX5_isOpenFor_22 : decode cX5_isOpenFor 22 = .ok (.goto 4, 3) := by decide +kernel
theorem dX5_isOpenFor_25 : decode cX5_isOpenFor 25 = .ok (.iconst 0, 1) := by decide +kernel
theorem dX5_isOpenFor_26 : decode cX5_isOpenFor 26 = .ok (.ireturn, 1) := by decide +kernel
set_option maxHeartbeats 4000000 in
set_option maxRecDepth 100000 in
theorem c_X5_isOpenFor (l : Launch) (E : State) (G : kG) (S T : kSt) (o : Int64) (ad : kAd) (t u : Nat) (ht : t < S.2 0 3) (hu : u < S.2 0 0) (hS : okN S) : Met l yX5_isOpenFor (.code yX5_isOpenFor cX5_isOpenFor 2 (some .boolean) :: wsL_law) ({ frames := 1, cells := 0, slots := 0, locals := 20 } : Room) (va_Pc [.ref (ad 9 t), .ref (ad 4 u)] (kPre E G ad (cto G S T o ad))) (kQi E G (fun r ad1 ct1 => r = bI (opn S u t) ∧ ad = ad1 ∧ ct1 = cto G S T o ad)) 0 0 (kB E.heap.size) := by
  refine Met.ofW (cc := cX5_isOpenFor) (maxL := 2) (ret := (some .boolean)) (by decide) rfl ?_
  intro p e s m args below meth c s₁ B hml hv
  obtain ⟨rfl, hM, hK, hW0⟩ := hv
  have hlocks := B.notSynchronized
  have hr := B.returns
  have Z : kZ p m c cX5_isOpenFor 2 s _ wsL_law RX5 E G := ⟨⟨B.exec, B.bytes, hml, findClass_of_methodNamed B.named, fun w h => atoms_spec (ws := .code yX5_isOpenFor cX5_isOpenFor 2 (some .boolean) :: wsL_law) B.pre w (List.mem_cons_of_mem _ h)⟩, hM, hK⟩
  have hx := Z.1.1
  have hb := Z.1.2.1
  have X := kX.of hW0
  have hl := lv_entry ([.ref (ad 9 t), .ref (ad 4 u)]) (n := 2) (Nat.le_of_ble_eq_true rfl)
  rw [lg_entry_eq]
  generalize (lg_sl ([.ref (ad 9 t), .ref (ad 4 u)]) ++ List.replicate (2 - (lg_sl ([.ref (ad 9 t), .ref (ad 4 u)])).length) Slot.unset).toArray = ls at hl ⊢
  have hl : lv_has ls 2 [(0, .ref (ad 9 t)), (1, .ref (ad 4 u))] := hl
  obtain ⟨hT1, hT2, hT3, hT4, hT5, hT6, hT7⟩ := hS
  have h7 := hT7 t ht
  refine lv_aload_n hx hb dX5_isOpenFor_0 rfl (lv_at hl 0 rfl) ?_
  refine k_get (index := 52) (j := 5) (ad := ad) (k := 9) (i := t) Z X (ct_9 (by first | assumption | omega | decide)) inlX5 rfl (by decide) (inU_15 _ (List.mem_of_getElem? (i := 16) rfl)) (fun _ h => h) (v := .int (S.1 14 t)) rfl dX5_isOpenFor_1 ?_
  refine lv_if_ne (tgt := 25) hx hb dX5_isOpenFor_4 (by decide) (fun c_4 => ?_) (fun c_4 => ?_)
  · refine lv_iconst (v := 0) hx hb dX5_isOpenFor_25 (by decide) ?_
    exact k_iret Z X hr hlocks rfl (by omega) (by omega) dX5_isOpenFor_26 ⟨bI_f (by simp [opn, c_4]), rfl, rfl⟩
  · refine lv_aload_n hx hb dX5_isOpenFor_7 rfl (lv_at hl 0 rfl) ?_
    refine k_get (index := 21) (j := 2) (ad := ad) (k := 9) (i := t) Z X (ct_9 (by first | assumption | omega | decide)) inlX5 rfl (by decide) (inU_15 _ (List.mem_of_getElem? (i := 8) rfl)) (fun _ h => h) (v := .ref (ad 4 (S.2 5 t))) rfl dX5_isOpenFor_8 ?_
    refine k_get (index := 41) (j := 0) (ad := ad) (k := 4) (i := (S.2 5 t)) Z X (ct_4 h7.2) inlX6 rfl (by decide) (inU_15 _ (List.mem_of_getElem? (i := 14) rfl)) (fun _ h => h) (v := .int (nI (S.2 5 t))) rfl dX5_isOpenFor_11 ?_
    refine lv_aload_n hx hb dX5_isOpenFor_14 rfl (lv_at hl 1 rfl) ?_
    refine k_get (index := 41) (j := 0) (ad := ad) (k := 4) (i := u) Z X (ct_4 hu) inlX6 rfl (by decide) (inU_15 _ (List.mem_of_getElem? (i := 14) rfl)) (fun _ h => h) (v := .int (nI u)) rfl dX5_isOpenFor_15 ?_
    refine lv_icmp_ne (tgt := 25) hx hb dX5_isOpenFor_18 (by decide) (fun c_18 => ?_) (fun c_18 => ?_)
    · have c_18 : ¬ (S.2 5 t) = u := fun h => c_18 ((nI_eq (a := (S.2 5 t)) (b := u) (by omega) (by omega)).mpr h)
      refine lv_iconst (v := 0) hx hb dX5_isOpenFor_25 (by decide) ?_
      exact k_iret Z X hr hlocks rfl (by omega) (by omega) dX5_isOpenFor_26 ⟨bI_f (by simp [opn, c_4, c_18]), rfl, rfl⟩
    · have c_18 : (S.2 5 t) = u := (nI_eq (a := (S.2 5 t)) (b := u) (by omega) (by omega)).mp c_18
      refine lv_iconst (v := 1) hx hb dX5_isOpenFor_21 (by decide) ?_
      refine lv_goto (tgt := 26) hx hb dX5_isOpenFor_22 (by decide) ?_
      exact k_iret Z X hr hlocks rfl (by omega) (by omega) dX5_isOpenFor_26 ⟨bI_t (by simp [opn, c_4, c_18]), rfl, rfl⟩
theorem dX5_comesBefore_0 : decode cX5_comesBefore 0 = .ok (.aload_n 0, 1) := by decide +kernel
theorem dX5_comesBefore_1 : decode cX5_comesBefore 1 = .ok (.getfield 25, 3) := by decide +kernel
theorem dX5_comesBefore_4 : decode cX5_comesBefore 4 = .ok (.aload_n 1, 1) := by decide +kernel
theorem dX5_comesBefore_5 : decode cX5_comesBefore 5 = .ok (.getfield 25, 3) := by decide +kernel
theorem dX5_comesBefore_8 : decode cX5_comesBefore 8 = .ok (.if_icmp .lt 25, 3) := by decide +kernel
theorem dX5_comesBefore_11 : decode cX5_comesBefore 11 = .ok (.aload_n 0, 1) := by decide +kernel
theorem dX5_comesBefore_12 : decode cX5_comesBefore 12 = .ok (.getfield 25, 3) := by decide +kernel
theorem dX5_comesBefore_15 : decode cX5_comesBefore 15 = .ok (.aload_n 1, 1) := by decide +kernel
theorem dX5_comesBefore_16 : decode cX5_comesBefore 16 = .ok (.getfield 25, 3) := by decide +kernel
theorem dX5_comesBefore_19 : decode cX5_comesBefore 19 = .ok (.if_icmp .ne 18, 3) := by decide +kernel
theorem dX5_comesBefore_22 : decode cX5_comesBefore 22 = .ok (.aload_n 0, 1) := by decide +kernel
theorem dX5_comesBefore_23 : decode cX5_comesBefore 23 = .ok (.getfield 9, 3) := by decide +kernel
theorem dX5_comesBefore_26 : decode cX5_comesBefore 26 = .ok (.aload_n 1, 1) := by decide +kernel
theorem dX5_comesBefore_27 : decode cX5_comesBefore 27 = .ok (.getfield 9, 3) := by decide +kernel
theorem dX5_comesBefore_30 : decode cX5_comesBefore 30 = .ok (.if_icmp .ge 7, 3) := by decide +kernel
theorem dX5_comesBefore_33 : decode cX5_comesBefore 33 = .ok (.iconst 1, 1) := by decide +kernel
theorem dX5_comesBefore_34 : decode cX5_comesBefore 34 = .ok (.goto 4, 3) := by decide +kernel
theorem dX5_comesBefore_37 : decode cX5_comesBefore 37 = .ok (.iconst 0, 1) := by decide +kernel
theorem dX5_comesBefore_38 : decode cX5_comesBefore 38 = .ok (.ireturn, 1) := by decide +kernel
set_option maxHeartbeats 4000000 in
set_option maxRecDepth 100000 in
theorem c_X5_comesBefore (l : Launch) (E : State) (G : kG) (S T : kSt) (o : Int64) (ad : kAd) (a b : Nat) (ha : a < S.2 0 3) (hb9 : b < S.2 0 3) (hS : S.2 0 3 ≤ 60) : Met l yX5_comesBefore (.code yX5_comesBefore cX5_comesBefore 2 (some .boolean) :: wsL_law) ({ frames := 1, cells := 0, slots := 0, locals := 20 } : Room) (va_Pc [.ref (ad 9 a), .ref (ad 9 b)] (kPre E G ad (cto G S T o ad))) (kQi E G (fun r ad1 ct1 => r = bI (ahead S b a) ∧ ad = ad1 ∧ ct1 = cto G S T o ad)) 0 0 (kB E.heap.size) := by
  refine Met.ofW (cc := cX5_comesBefore) (maxL := 2) (ret := (some .boolean)) (by decide) rfl ?_
  intro p e s m args below meth c s₁ B hml hv
  obtain ⟨rfl, hM, hK, hW0⟩ := hv
  have hlocks := B.notSynchronized
  have hr := B.returns
  have Z : kZ p m c cX5_comesBefore 2 s _ wsL_law RX5 E G := ⟨⟨B.exec, B.bytes, hml, findClass_of_methodNamed B.named, fun w h => atoms_spec (ws := .code yX5_comesBefore cX5_comesBefore 2 (some .boolean) :: wsL_law) B.pre w (List.mem_cons_of_mem _ h)⟩, hM, hK⟩
  have hx := Z.1.1
  have hb := Z.1.2.1
  have X := kX.of hW0
  have hl := lv_entry ([.ref (ad 9 a), .ref (ad 9 b)]) (n := 2) (Nat.le_of_ble_eq_true rfl)
  rw [lg_entry_eq]
  generalize (lg_sl ([.ref (ad 9 a), .ref (ad 9 b)]) ++ List.replicate (2 - (lg_sl ([.ref (ad 9 a), .ref (ad 9 b)])).length) Slot.unset).toArray = ls at hl ⊢
  have hl : lv_has ls 2 [(0, .ref (ad 9 a)), (1, .ref (ad 9 b))] := hl
  refine lv_aload_n hx hb dX5_comesBefore_0 rfl (lv_at hl 0 rfl) ?_
  refine k_get (index := 25) (j := 3) (ad := ad) (k := 9) (i := a) Z X (ct_9 (by first | assumption | omega | decide)) inlX5 rfl (by decide) (inU_15 _ (List.mem_of_getElem? (i := 9) rfl)) (fun _ h => h) (v := .int (S.1 13 a)) rfl dX5_comesBefore_1 ?_
  refine lv_aload_n hx hb dX5_comesBefore_4 rfl (lv_at hl 1 rfl) ?_
  refine k_get (index := 25) (j := 3) (ad := ad) (k := 9) (i := b) Z X (ct_9 (by first | assumption | omega | decide)) inlX5 rfl (by decide) (inU_15 _ (List.mem_of_getElem? (i := 9) rfl)) (fun _ h => h) (v := .int (S.1 13 b)) rfl dX5_comesBefore_5 ?_
  refine lv_icmp_lt (tgt := 33) hx hb dX5_comesBefore_8 (by decide) (fun c_8 => ?_) (fun c_8 => ?_)
  · refine lv_iconst (v := 1) hx hb dX5_comesBefore_33 (by decide) ?_
    refine lv_goto (tgt := 38) hx hb dX5_comesBefore_34 (by decide) ?_
    exact k_iret Z X hr hlocks rfl (by omega) (by omega) dX5_comesBefore_38 ⟨bI_t (by simp [ahead, c_8]), rfl, rfl⟩
  · refine lv_aload_n hx hb dX5_comesBefore_11 rfl (lv_at hl 0 rfl) ?_
    refine k_get (index := 25) (j := 3) (ad := ad) (k := 9) (i := a) Z X (ct_9 (by first | assumption | omega | decide)) inlX5 rfl (by decide) (inU_15 _ (List.mem_of_getElem? (i := 9) rfl)) (fun _ h => h) (v := .int (S.1 13 a)) rfl dX5_comesBefore_12 ?_
    refine lv_aload_n hx hb dX5_comesBefore_15 rfl (lv_at hl 1 rfl) ?_
    refine k_get (index := 25) (j := 3) (ad := ad) (k := 9) (i := b) Z X (ct_9 (by first | assumption | omega | decide)) inlX5 rfl (by decide) (inU_15 _ (List.mem_of_getElem? (i := 9) rfl)) (fun _ h => h) (v := .int (S.1 13 b)) rfl dX5_comesBefore_16 ?_
    refine lv_icmp_ne (tgt := 37) hx hb dX5_comesBefore_19 (by decide) (fun c_19 => ?_) (fun c_19 => ?_)
    · refine lv_iconst (v := 0) hx hb dX5_comesBefore_37 (by decide) ?_
      exact k_iret Z X hr hlocks rfl (by omega) (by omega) dX5_comesBefore_38 ⟨bI_f (by simp [ahead, c_8, c_19]), rfl, rfl⟩
    · refine lv_aload_n hx hb dX5_comesBefore_22 rfl (lv_at hl 0 rfl) ?_
      refine k_get (index := 9) (j := 0) (ad := ad) (k := 9) (i := a) Z X (ct_9 (by first | assumption | omega | decide)) inlX5 rfl (by decide) (inU_15 _ (List.mem_of_getElem? (i := 5) rfl)) (fun _ h => h) (v := .int (nI a)) rfl dX5_comesBefore_23 ?_
      refine lv_aload_n hx hb dX5_comesBefore_26 rfl (lv_at hl 1 rfl) ?_
      refine k_get (index := 9) (j := 0) (ad := ad) (k := 9) (i := b) Z X (ct_9 (by first | assumption | omega | decide)) inlX5 rfl (by decide) (inU_15 _ (List.mem_of_getElem? (i := 5) rfl)) (fun _ h => h) (v := .int (nI b)) rfl dX5_comesBefore_27 ?_
      refine lv_icmp_ge (tgt := 37) hx hb dX5_comesBefore_30 (by decide) (fun c_30 => ?_) (fun c_30 => ?_)
      · have c_30 : b ≤ a := (nI_leI (a := b) (b := a) (by omega) (by omega)).mp c_30
        have c_30 : ¬ a < b := by omega
        refine lv_iconst (v := 0) hx hb dX5_comesBefore_37 (by decide) ?_
        exact k_iret Z X hr hlocks rfl (by omega) (by omega) dX5_comesBefore_38 ⟨bI_f (by simp [ahead, c_8, c_19, c_30]), rfl, rfl⟩
      · have c_30 : ¬ b ≤ a := fun h => c_30 ((nI_leI (a := b) (b := a) (by omega) (by omega)).mpr h)
        have c_30 : a < b := by omega
        refine lv_iconst (v := 1) hx hb dX5_comesBefore_33 (by decide) ?_
        refine lv_goto (tgt := 38) hx hb dX5_comesBefore_34 (by decide) ?_
        exact k_iret Z X hr hlocks rfl (by omega) (by omega) dX5_comesBefore_38 ⟨bI_t (by simp [ahead, c_8, c_19, c_30]), rfl, rfl⟩
theorem dX1_write_0 : decode cX1_write 0 = .ok (.aload_n 0, 1) := by decide +kernel
theorem dX1_write_1 : decode cX1_write 1 = .ok (.getfield 25, 3) := by decide +kernel
theorem dX1_write_4 : decode cX1_write 4 = .ok (.ifCond .lt 53, 3) := by decide +kernel
theorem dX1_write_7 : decode cX1_write 7 = .ok (.aload_n 0, 1) := by decide +kernel
theorem dX1_write_8 : decode cX1_write 8 = .ok (.getfield 25, 3) := by decide +kernel
theorem dX1_write_11 : decode cX1_write 11 = .ok (.sipush 512, 3) := by decide +kernel
theorem dX1_write_14 : decode cX1_write 14 = .ok (.if_icmp .ge 43, 3) := by decide +kernel
theorem dX1_write_17 : decode cX1_write 17 = .ok (.aload_n 0, 1) := by decide +kernel
theorem dX1_write_18 : decode cX1_write 18 = .ok (.getfield 9, 3) := by decide +kernel
theorem dX1_write_21 : decode cX1_write 21 = .ok (.aload_n 0, 1) := by decide +kernel
theorem dX1_write_22 : decode cX1_write 22 = .ok (.getfield 25, 3) := by decide +kernel
theorem dX1_write_25 : decode cX1_write 25 = .ok (.iload_n 1, 1) := by decide +kernel
theorem dX1_write_26 : decode cX1_write 26 = .ok (.iastore, 1) := by decide +kernel
theorem dX1_write_27 : decode cX1_write 27 = .ok (.aload_n 0, 1) := by decide +kernel
theorem dX1_write_28 : decode cX1_write 28 = .ok (.getfield 15, 3) := by decide +kernel
theorem dX1_write_31 : decode cX1_write 31 = .ok (.aload_n 0, 1) := by decide +kernel
theorem dX1_write_32 : decode cX1_write 32 = .ok (.getfield 25, 3) := by decide +kernel
theorem dX1_write_35 : decode cX1_write 35 = .ok (.iload_n 2, 1) := by decide +kernel
theorem dX1_write_36 : decode cX1_write 36 = .ok (.iastore, 1) := by decide +kernel
theorem dX1_write_37 : decode cX1_write 37 = .ok (.aload_n 0, 1) := by decide +kernel
theorem dX1_write_38 : decode cX1_write 38 = .ok (.getfield 18, 3) := by decide +kernel
theorem dX1_write_41 : decode cX1_write 41 = .ok (.aload_n 0, 1) := by decide +kernel
theorem dX1_write_42 : decode cX1_write 42 = .ok (.getfield 25, 3) := by decide +kernel
theorem dX1_write_45 : decode cX1_write 45 = .ok (.iload_n 3, 1) := by decide +kernel
theorem dX1_write_46 : decode cX1_write 46 = .ok (.iastore, 1) := by decide +kernel
theorem dX1_write_47 : decode cX1_write 47 = .ok (.aload_n 0, 1) := by decide +kernel
theorem dX1_write_48 : decode cX1_write 48 = .ok (.dup, 1) := by decide +kernel
theorem dX1_write_49 : decode cX1_write 49 = .ok (.getfield 25, 3) := by decide +kernel
theorem dX1_write_52 : decode cX1_write 52 = .ok (.iconst 1, 1) := by decide +kernel
theorem dX1_write_53 : decode cX1_write 53 = .ok (.iadd, 1) := by decide +kernel
theorem dX1_write_54 : decode cX1_write 54 = .ok (.putfield 25, 3) := by decide +kernel
theorem dX1_write_57 : decode cX1_write 57 = .ok (.return_, 1) := by decide +kernel
set_option maxHeartbeats 4000000 in
set_option maxRecDepth 100000 in
theorem c_X1_write (l : Launch) (E : State) (G : kG) (S T : kSt) (o : Int64) (ad : kAd) (a b c9 : Int32) (h : S.2 0 4 < 512) : Met l yX1_write (.code yX1_write cX1_write 4 none :: wsL_law) ({ frames := 1, cells := 0, slots := 0, locals := 20 } : Room) (va_Pc [.ref (ad 12 0), .int a, .int b, .int c9] (kPre E G ad (cto G S T o ad))) (kQv E G (fun ad1 ct1 => ad = ad1 ∧ ct1 = cto G (sN (sI (sI (sI S 15 (S.2 0 4) a) 16 (S.2 0 4) b) 17 (S.2 0 4) c9) 0 4 (S.2 0 4 + 1)) T o ad)) 0 0 (kB E.heap.size) := by
  refine Met.ofW (cc := cX1_write) (maxL := 4) (ret := none) (by decide) rfl ?_
  intro p e s m args below meth c s₁ B hml hv
  obtain ⟨rfl, hM, hK, hW0⟩ := hv
  have hlocks := B.notSynchronized
  have hr := B.returns
  have Z : kZ p m c cX1_write 4 s _ wsL_law RX1 E G := ⟨⟨B.exec, B.bytes, hml, findClass_of_methodNamed B.named, fun w h => atoms_spec (ws := .code yX1_write cX1_write 4 none :: wsL_law) B.pre w (List.mem_cons_of_mem _ h)⟩, hM, hK⟩
  have hx := Z.1.1
  have hb := Z.1.2.1
  have X := kX.of hW0
  have hl := lv_entry ([.ref (ad 12 0), .int a, .int b, .int c9]) (n := 4) (Nat.le_of_ble_eq_true rfl)
  rw [lg_entry_eq]
  generalize (lg_sl ([.ref (ad 12 0), .int a, .int b, .int c9]) ++ List.replicate (4 - (lg_sl ([.ref (ad 12 0), .int a, .int b, .int c9])).length) Slot.unset).toArray = ls at hl ⊢
  have hl : lv_has ls 4 [(0, .ref (ad 12 0)), (1, .int a), (2, .int b), (3, .int c9)] := hl
  refine lv_aload_n hx hb dX1_write_0 rfl (lv_at hl 0 rfl) ?_
  refine k_get (index := 25) (j := 3) (ad := ad) (k := 12) (i := 0) Z X ct_12 inlX1 rfl (by decide) (inU_12 _ (List.mem_of_getElem? (i := 23) rfl)) (fun _ h => h) (v := .int (nI (S.2 0 4))) rfl dX1_write_1 ?_
  refine lv_if_lt (tgt := 57) hx hb dX1_write_4 (by decide) (fun c_4 => ?_) (fun c_4 => ?_)
  · exact absurd c_4 (nI_pos (by omega))
  · refine lv_aload_n hx hb dX1_write_7 rfl (lv_at hl 0 rfl) ?_
    refine k_get (index := 25) (j := 3) (ad := ad) (k := 12) (i := 0) Z X ct_12 inlX1 rfl (by decide) (inU_12 _ (List.mem_of_getElem? (i := 23) rfl)) (fun _ h => h) (v := .int (nI (S.2 0 4))) rfl dX1_write_8 ?_
    refine lv_sipush (v := 512) hx hb dX1_write_11 (by decide) ?_
    refine lv_icmp_ge (tgt := 57) hx hb dX1_write_14 (by decide) (fun c_14 => ?_) (fun c_14 => ?_)
    · exact absurd ((nI_leI (a := 512) (b := S.2 0 4) (by omega) (by omega)).mp c_14) (by omega)
    · refine lv_aload_n hx hb dX1_write_17 rfl (lv_at hl 0 rfl) ?_
      refine k_get (index := 9) (j := 0) (ad := ad) (k := 12) (i := 0) Z X ct_12 inlX1 rfl (by decide) (inU_5 _ (List.mem_of_getElem? (i := 16) rfl)) (fun _ h => h) (v := .ref (ad 13 0)) rfl dX1_write_18 ?_
      refine lv_aload_n hx hb dX1_write_21 rfl (lv_at hl 0 rfl) ?_
      refine k_get (index := 25) (j := 3) (ad := ad) (k := 12) (i := 0) Z X ct_12 inlX1 rfl (by decide) (inU_12 _ (List.mem_of_getElem? (i := 23) rfl)) (fun _ h => h) (v := .int (nI (S.2 0 4))) rfl dX1_write_22 ?_
      refine lv_iload_n hx hb dX1_write_25 rfl (lv_at hl 1 rfl) ?_
      refine k_ist (ad := ad) (k := 13) (i := 0) Z X (ct_13 (by decide)) (vp_in_nI (by first | assumption | omega) (by decide)) dX1_write_26 (fun H locs X => ?_)
      rw [show (nI (S.2 0 4)).toNatClampNeg = S.2 0 4 from nI_clamp (by omega)] at X
      have X : kX E G s H locs ad (cto G (sI S 15 (S.2 0 4) a) T o ad) := X.eq (cs_log 0 _ _ (by decide))
      refine lv_aload_n hx hb dX1_write_27 rfl (lv_at hl 0 rfl) ?_
      refine k_get (index := 15) (j := 1) (ad := ad) (k := 12) (i := 0) Z X ct_12 inlX1 rfl (by decide) (inU_5 _ (List.mem_of_getElem? (i := 17) rfl)) (fun _ h => h) (v := .ref (ad 13 1)) rfl dX1_write_28 ?_
      refine lv_aload_n hx hb dX1_write_31 rfl (lv_at hl 0 rfl) ?_
      refine k_get (index := 25) (j := 3) (ad := ad) (k := 12) (i := 0) Z X ct_12 inlX1 rfl (by decide) (inU_12 _ (List.mem_of_getElem? (i := 23) rfl)) (fun _ h => h) (v := .int (nI (S.2 0 4))) rfl dX1_write_32 ?_
      refine lv_iload_n hx hb dX1_write_35 rfl (lv_at hl 2 rfl) ?_
      refine k_ist (ad := ad) (k := 13) (i := 1) Z X (ct_13 (by decide)) (vp_in_nI (by first | assumption | omega) (by decide)) dX1_write_36 (fun H locs X => ?_)
      rw [show (nI (S.2 0 4)).toNatClampNeg = S.2 0 4 from nI_clamp (by omega)] at X
      have X : kX E G s H locs ad (cto G (sI (sI S 15 (S.2 0 4) a) 16 (S.2 0 4) b) T o ad) := X.eq (cs_log 1 _ _ (by decide))
      refine lv_aload_n hx hb dX1_write_37 rfl (lv_at hl 0 rfl) ?_
      refine k_get (index := 18) (j := 2) (ad := ad) (k := 12) (i := 0) Z X ct_12 inlX1 rfl (by decide) (inU_5 _ (List.mem_of_getElem? (i := 18) rfl)) (fun _ h => h) (v := .ref (ad 13 2)) rfl dX1_write_38 ?_
      refine lv_aload_n hx hb dX1_write_41 rfl (lv_at hl 0 rfl) ?_
      refine k_get (index := 25) (j := 3) (ad := ad) (k := 12) (i := 0) Z X ct_12 inlX1 rfl (by decide) (inU_12 _ (List.mem_of_getElem? (i := 23) rfl)) (fun _ h => h) (v := .int (nI (S.2 0 4))) rfl dX1_write_42 ?_
      refine lv_iload_n hx hb dX1_write_45 rfl (lv_at hl 3 rfl) ?_
      refine k_ist (ad := ad) (k := 13) (i := 2) Z X (ct_13 (by decide)) (vp_in_nI (by first | assumption | omega) (by decide)) dX1_write_46 (fun H locs X => ?_)
      rw [show (nI (S.2 0 4)).toNatClampNeg = S.2 0 4 from nI_clamp (by omega)] at X
      have X : kX E G s H locs ad (cto G (sI (sI (sI S 15 (S.2 0 4) a) 16 (S.2 0 4) b) 17 (S.2 0 4) c9) T o ad) := X.eq (cs_log 2 _ _ (by decide))
      refine lv_aload_n hx hb dX1_write_47 rfl (lv_at hl 0 rfl) ?_
      refine lv_dup hx hb dX1_write_48 rfl ?_
      refine k_get (index := 25) (j := 3) (ad := ad) (k := 12) (i := 0) Z X ct_12 inlX1 rfl (by decide) (inU_12 _ (List.mem_of_getElem? (i := 23) rfl)) (fun _ h => h) (v := .int (nI (S.2 0 4))) rfl dX1_write_49 ?_
      refine lv_iconst (v := 1) hx hb dX1_write_52 (by decide) ?_
      refine lv_iadd hx hb dX1_write_53 ?_
      refine lv_topi (fun x_53 e_53 => ?_)
      obtain rfl : x_53 = nI (S.2 0 4 + 1) := e_53.trans (nI_1 _)
      refine k_put (index := 25) (j := 3) (k := 12) (i := 0) Z X ct_12 inlX1 tyX1_ok nmX1 rfl (by decide) (inU_12 _ (List.mem_of_getElem? (i := 23) rfl)) (fun _ h => h) rfl (Nat.le_of_ble_eq_true rfl) rfl rfl dX1_write_54 (fun H locs X => ?_)
      have X : kX E G s H locs ad (cto G (sN (sI (sI (sI S 15 (S.2 0 4) a) 16 (S.2 0 4) b) 17 (S.2 0 4) c9) 0 4 (S.2 0 4 + 1)) T o ad) := X.eq (cs_size _)
      exact k_vret Z X hr hlocks (by omega) (by omega) dX1_write_57 ⟨rfl, rfl⟩
theorem dX1_writeEdit_0 : decode cX1_writeEdit 0 = .ok (.aload_n 0, 1) := by decide +kernel
theorem dX1_writeEdit_1 : decode cX1_writeEdit 1 = .ok (.iload_n 1, 1) := by decide +kernel
theorem dX1_writeEdit_2 : decode cX1_writeEdit 2 = .ok (.iconst (-1), 1) := by decide +kernel
theorem dX1_writeEdit_3 : decode cX1_writeEdit 3 = .ok (.iconst 2, 1) := by decide +kernel
theorem dX1_writeEdit_4 : decode cX1_writeEdit 4 = .ok (.invokevirtual 21, 3) := by decide +kernel
theorem dX1_writeEdit_7 : decode cX1_writeEdit 7 = .ok (.return_, 1) := by decide +kernel
set_option maxHeartbeats 4000000 in
set_option maxRecDepth 100000 in
theorem c_X1_writeEdit (l : Launch) (E : State) (G : kG) (S T : kSt) (o : Int64) (ad : kAd) (a : Int32) (h : S.2 0 4 < 512) : Met l yX1_writeEdit (.code yX1_writeEdit cX1_writeEdit 2 none :: wsL_law) ({ frames := 2, cells := 0, slots := 0, locals := 50 } : Room) (va_Pc [.ref (ad 12 0), .int a] (kPre E G ad (cto G S T o ad))) (kQv E G (fun ad1 ct1 => ad = ad1 ∧ ct1 = cto G (sN (sI (sI (sI S 15 (S.2 0 4) a) 16 (S.2 0 4) (-1)) 17 (S.2 0 4) 2) 0 4 (S.2 0 4 + 1)) T o ad)) 0 0 (kB E.heap.size) := by
  refine Met.ofW (cc := cX1_writeEdit) (maxL := 2) (ret := none) (by decide) rfl ?_
  intro p e s m args below meth c s₁ B hml hv
  obtain ⟨rfl, hM, hK, hW0⟩ := hv
  have hlocks := B.notSynchronized
  have hr := B.returns
  have Z : kZ p m c cX1_writeEdit 2 s _ wsL_law RX1 E G := ⟨⟨B.exec, B.bytes, hml, findClass_of_methodNamed B.named, fun w h => atoms_spec (ws := .code yX1_writeEdit cX1_writeEdit 2 none :: wsL_law) B.pre w (List.mem_cons_of_mem _ h)⟩, hM, hK⟩
  have hx := Z.1.1
  have hb := Z.1.2.1
  have X := kX.of hW0
  have hl := lv_entry ([.ref (ad 12 0), .int a]) (n := 2) (Nat.le_of_ble_eq_true rfl)
  rw [lg_entry_eq]
  generalize (lg_sl ([.ref (ad 12 0), .int a]) ++ List.replicate (2 - (lg_sl ([.ref (ad 12 0), .int a])).length) Slot.unset).toArray = ls at hl ⊢
  have hl : lv_has ls 2 [(0, .ref (ad 12 0)), (1, .int a)] := hl
  refine lv_aload_n hx hb dX1_writeEdit_0 rfl (lv_at hl 0 rfl) ?_
  refine lv_iload_n hx hb dX1_writeEdit_1 rfl (lv_at hl 1 rfl) ?_
  refine lv_iconst (v := (-1)) hx hb dX1_writeEdit_2 (by decide) ?_
  refine lv_iconst (v := 2) hx hb dX1_writeEdit_3 (by decide) ?_
  refine k_Rv X (k_runV (As := [.int a, .int (-1), .int 2]) (rest := []) Z X (c_X1_write l E G S T o ad a (-1) 2 h) (k_cwV 3 Z.1.2.2.2.2 (inU_12 _ (List.mem_of_getElem? (i := 19) rfl)) (inU_12 _ (List.mem_of_getElem? (i := 20) rfl)) (inU_12 _ (List.mem_of_getElem? (i := 21) rfl)) (inU_2 _ (List.mem_of_getElem? (i := 4) rfl)) (inU_12 _ (List.mem_of_getElem? (i := 22) rfl)) rfl rfl (by decide +kernel) ⟨Nat.le_of_ble_eq_true rfl, Nat.le_of_ble_eq_true rfl⟩) (k_recv Z X ct_12 rfl) rfl hl.1 rfl (Nat.le_of_ble_eq_true rfl) dX1_writeEdit_4 ⟨(by first | exact Nat.le_of_ble_eq_true rfl | (show _ ≤ (_ : Nat); simp only [headSpec]; omega)), (by first | exact Nat.le_of_ble_eq_true rfl | (show _ ≤ (_ : Nat); simp only [headSpec]; omega))⟩) (fun ad1 ct1 H locs hp X => ?_)
  obtain ⟨ha_, hb_⟩ := hp
  rw [← ha_, hb_] at X
  exact k_vret Z X hr hlocks (by omega) (by omega) dX1_writeEdit_7 ⟨rfl, rfl⟩
theorem dX1_writeMark_0 : decode cX1_writeMark 0 = .ok (.aload_n 0, 1) := by decide +kernel
theorem dX1_writeMark_1 : decode cX1_writeMark 1 = .ok (.iload_n 1, 1) := by decide +kernel
theorem dX1_writeMark_2 : decode cX1_writeMark 2 = .ok (.iload_n 2, 1) := by decide +kernel
theorem dX1_writeMark_3 : decode cX1_writeMark 3 = .ok (.iload_n 3, 1) := by decide +kernel
theorem dX1_writeMark_4 : decode cX1_writeMark 4 = .ok (.invokevirtual 21, 3) := by decide +kernel
theorem dX1_writeMark_7 : decode cX1_writeMark 7 = .ok (.return_, 1) := by decide +kernel
set_option maxHeartbeats 4000000 in
set_option maxRecDepth 100000 in
theorem c_X1_writeMark (l : Launch) (E : State) (G : kG) (S T : kSt) (o : Int64) (ad : kAd) (a b c9 : Int32) (h : S.2 0 4 < 512) : Met l yX1_writeMark (.code yX1_writeMark cX1_writeMark 4 none :: wsL_law) ({ frames := 2, cells := 0, slots := 0, locals := 50 } : Room) (va_Pc [.ref (ad 12 0), .int a, .int b, .int c9] (kPre E G ad (cto G S T o ad))) (kQv E G (fun ad1 ct1 => ad = ad1 ∧ ct1 = cto G (sN (sI (sI (sI S 15 (S.2 0 4) a) 16 (S.2 0 4) b) 17 (S.2 0 4) c9) 0 4 (S.2 0 4 + 1)) T o ad)) 0 0 (kB E.heap.size) := by
  refine Met.ofW (cc := cX1_writeMark) (maxL := 4) (ret := none) (by decide) rfl ?_
  intro p e s m args below meth c s₁ B hml hv
  obtain ⟨rfl, hM, hK, hW0⟩ := hv
  have hlocks := B.notSynchronized
  have hr := B.returns
  have Z : kZ p m c cX1_writeMark 4 s _ wsL_law RX1 E G := ⟨⟨B.exec, B.bytes, hml, findClass_of_methodNamed B.named, fun w h => atoms_spec (ws := .code yX1_writeMark cX1_writeMark 4 none :: wsL_law) B.pre w (List.mem_cons_of_mem _ h)⟩, hM, hK⟩
  have hx := Z.1.1
  have hb := Z.1.2.1
  have X := kX.of hW0
  have hl := lv_entry ([.ref (ad 12 0), .int a, .int b, .int c9]) (n := 4) (Nat.le_of_ble_eq_true rfl)
  rw [lg_entry_eq]
  generalize (lg_sl ([.ref (ad 12 0), .int a, .int b, .int c9]) ++ List.replicate (4 - (lg_sl ([.ref (ad 12 0), .int a, .int b, .int c9])).length) Slot.unset).toArray = ls at hl ⊢
  have hl : lv_has ls 4 [(0, .ref (ad 12 0)), (1, .int a), (2, .int b), (3, .int c9)] := hl
  refine lv_aload_n hx hb dX1_writeMark_0 rfl (lv_at hl 0 rfl) ?_
  refine lv_iload_n hx hb dX1_writeMark_1 rfl (lv_at hl 1 rfl) ?_
  refine lv_iload_n hx hb dX1_writeMark_2 rfl (lv_at hl 2 rfl) ?_
  refine lv_iload_n hx hb dX1_writeMark_3 rfl (lv_at hl 3 rfl) ?_
  refine k_Rv X (k_runV (As := [.int a, .int b, .int c9]) (rest := []) Z X (c_X1_write l E G S T o ad a b c9 h) (k_cwV 3 Z.1.2.2.2.2 (inU_12 _ (List.mem_of_getElem? (i := 19) rfl)) (inU_12 _ (List.mem_of_getElem? (i := 20) rfl)) (inU_12 _ (List.mem_of_getElem? (i := 21) rfl)) (inU_2 _ (List.mem_of_getElem? (i := 4) rfl)) (inU_12 _ (List.mem_of_getElem? (i := 22) rfl)) rfl rfl (by decide +kernel) ⟨Nat.le_of_ble_eq_true rfl, Nat.le_of_ble_eq_true rfl⟩) (k_recv Z X ct_12 rfl) rfl hl.1 rfl (Nat.le_of_ble_eq_true rfl) dX1_writeMark_4 ⟨(by first | exact Nat.le_of_ble_eq_true rfl | (show _ ≤ (_ : Nat); simp only [headSpec]; omega)), (by first | exact Nat.le_of_ble_eq_true rfl | (show _ ≤ (_ : Nat); simp only [headSpec]; omega))⟩) (fun ad1 ct1 H locs hp X => ?_)
  obtain ⟨ha_, hb_⟩ := hp
  rw [← ha_, hb_] at X
  exact k_vret Z X hr hlocks (by omega) (by omega) dX1_writeMark_7 ⟨rfl, rfl⟩
theorem dX1_readInto_0 : decode cX1_readInto 0 = .ok (.aload_n 1, 1) := by decide +kernel
theorem dX1_readInto_1 : decode cX1_readInto 1 = .ok (.invokevirtual 29, 3) := by decide +kernel
theorem dX1_readInto_4 : decode cX1_readInto 4 = .ok (.iconst 0, 1) := by decide +kernel
theorem dX1_readInto_5 : decode cX1_readInto 5 = .ok (.istore_n 3, 1) := by decide +kernel
theorem dX1_readInto_6 : decode cX1_readInto 6 = .ok (.iload_n 3, 1) := by decide +kernel
theorem dX1_readInto_7 : decode cX1_readInto 7 = .ok (.aload_n 0, 1) := by decide +kernel
theorem dX1_readInto_8 : decode cX1_readInto 8 = .ok (.getfield 25, 3) := by decide +kernel
theorem dX1_readInto_11 : decode cX1_readInto 11 = .ok (.if_icmp .ge 62, 3) := by decide +kernel
theorem dX1_readInto_14 : decode cX1_readInto 14 = .ok (.iload_n 3, 1) := by decide +kernel
theorem dX1_readInto_15 : decode cX1_readInto 15 = .ok (.sipush 512, 3) := by decide +kernel
theorem dX1_readInto_18 : decode cX1_readInto 18 = .ok (.if_icmp .ge 55, 3) := by decide +kernel
theorem dX1_readInto_21 : decode cX1_readInto 21 = .ok (.aload_n 0, 1) := by decide +kernel
theorem dX1_readInto_22 : decode cX1_readInto 22 = .ok (.getfield 9, 3) := by decide +kernel
theorem dX1_readInto_25 : decode cX1_readInto 25 = .ok (.iload_n 3, 1) := by decide +kernel
theorem dX1_readInto_26 : decode cX1_readInto 26 = .ok (.iaload, 1) := by decide +kernel
theorem dX1_readInto_27 : decode cX1_readInto 27 = .ok (.iload_n 2, 1) := by decide +kernel
theorem dX1_readInto_28 : decode cX1_readInto 28 = .ok (.if_icmp .eq 6, 3) := by decide +kernel
theorem dX1_readInto_31 : decode cX1_readInto 31 = .ok (.goto 36, 3) := by decide +kernel
theorem dX1_readInto_34 : decode cX1_readInto 34 = .ok (.aload_n 0, 1) := by decide +kernel
theorem dX1_readInto_35 : decode cX1_readInto 35 = .ok (.getfield 18, 3) := by decide +kernel
theorem dX1_readInto_38 : decode cX1_readInto 38 = .ok (.iload_n 3, 1) := by decide +kernel
theorem dX1_readInto_39 : decode cX1_readInto 39 = .ok (.iaload, 1) := by decide +kernel
theorem dX1_readInto_40 : decode cX1_readInto 40 = .ok (.iconst 2, 1) := by decide +kernel
theorem dX1_readInto_41 : decode cX1_readInto 41 = .ok (.if_icmp .ne 10, 3) := by decide +kernel
theorem dX1_readInto_44 : decode cX1_readInto 44 = .ok (.aload_n 1, 1) := by decide +kernel
theorem dX1_readInto_45 : decode cX1_readInto 45 = .ok (.invokevirtual 29, 3) := by decide +kernel
theorem dX1_readInto_48 : decode cX1_readInto 48 = .ok (.goto 19, 3) := by decide +kernel
theorem dX1_readInto_51 : decode cX1_readInto 51 = .ok (.aload_n 1, 1) := by decide +kernel
theorem dX1_readInto_52 : decode cX1_readInto 52 = .ok (.aload_n 0, 1) := by decide +kernel
theorem dX1_readInto_53 : decode cX1_readInto 53 = .ok (.getfield 15, 3) := by decide +kernel
theorem dX1_readInto_56 : decode cX1_readInto 56 = .ok (.iload_n 3, 1) := by decide +kernel
theorem dX1_readInto_57 : decode cX1_readInto 57 = .ok (.iaload, 1) := by decide +kernel
theorem dX1_readInto_58 : decode cX1_readInto 58 = .ok (.aload_n 0, 1) := by decide +kernel
theorem dX1_readInto_59 : decode cX1_readInto 59 = .ok (.getfield 18, 3) := by decide +kernel
theorem dX1_readInto_62 : decode cX1_readInto 62 = .ok (.iload_n 3, 1) := by decide +kernel
theorem dX1_readInto_63 : decode cX1_readInto 63 = .ok (.iaload, 1) := by decide +kernel
theorem dX1_readInto_64 : decode cX1_readInto 64 = .ok (.invokevirtual 34, 3) := by decide +kernel
theorem dX1_readInto_67 : decode cX1_readInto 67 = .ok (.iinc 3 1, 3) := by decide +kernel
theorem dX1_readInto_70 : decode cX1_readInto 70 = .ok (.goto (-64), 3) := by decide +kernel
theorem dX1_readInto_73 : decode cX1_readInto 73 = .ok (.return_, 1) := by decide +kernel
set_option maxHeartbeats 4000000 in
set_option maxRecDepth 100000 in
theorem c_X1_readInto (l : Launch) (E : State) (G : kG) (S T : kSt) (o : Int64) (ad : kAd) (jm : Nat) (hS : okLg S) : Met l yX1_readInto (.code yX1_readInto cX1_readInto 4 none :: wsL_law) ({ frames := 3, cells := 0, slots := 0, locals := 90 } : Room) (va_Pc [.ref (ad 12 0), .ref (ad 14 0), .int (nI jm)] (kPre E G ad (cto G S T o ad))) (kQv E G (fun ad1 ct1 => ad = ad1 ∧ ct1 = cto G (sF S 18 (rpl S jm (S.1 18) (S.2 0 4))) T o ad)) 0 0 (kB E.heap.size) := by
  refine Met.ofW (cc := cX1_readInto) (maxL := 4) (ret := none) (by decide) rfl ?_
  intro p e s m args below meth c s₁ B hml hv
  obtain ⟨rfl, hM, hK, hW0⟩ := hv
  have hlocks := B.notSynchronized
  have hr := B.returns
  have Z : kZ p m c cX1_readInto 4 s _ wsL_law RX1 E G := ⟨⟨B.exec, B.bytes, hml, findClass_of_methodNamed B.named, fun w h => atoms_spec (ws := .code yX1_readInto cX1_readInto 4 none :: wsL_law) B.pre w (List.mem_cons_of_mem _ h)⟩, hM, hK⟩
  have hx := Z.1.1
  have hb := Z.1.2.1
  have X := kX.of hW0
  have hl := lv_entry ([.ref (ad 12 0), .ref (ad 14 0), .int (nI jm)]) (n := 4) (Nat.le_of_ble_eq_true rfl)
  rw [lg_entry_eq]
  generalize (lg_sl ([.ref (ad 12 0), .ref (ad 14 0), .int (nI jm)]) ++ List.replicate (4 - (lg_sl ([.ref (ad 12 0), .ref (ad 14 0), .int (nI jm)])).length) Slot.unset).toArray = ls at hl ⊢
  have hl : lv_has ls 4 [(0, .ref (ad 12 0)), (1, .ref (ad 14 0)), (2, .int (nI jm))] := hl
  obtain ⟨hL1, hL2⟩ := hS
  refine lv_aload_n hx hb dX1_readInto_0 rfl (lv_at hl 1 rfl) ?_
  refine k_Rv X (k_runV (As := []) (rest := []) Z X (c_X2_clear l E G ad (cto G S T o ad) 14 0 15 0 (S.1 18) ct_14 (ct_15.trans rfl)) (k_cwV 0 Z.1.2.2.2.2 (inU_25 _ (List.mem_of_getElem? (i := 20) rfl)) (inU_12 _ (List.mem_of_getElem? (i := 12) rfl)) (inU_12 _ (List.mem_of_getElem? (i := 13) rfl)) (inU_2 _ (List.mem_of_getElem? (i := 8) rfl)) (inU_12 _ (List.mem_of_getElem? (i := 14) rfl)) rfl rfl (by decide +kernel) ⟨Nat.le_of_ble_eq_true rfl, Nat.le_of_ble_eq_true rfl⟩) (k_recv Z X ct_14 rfl) rfl hl.1 rfl (Nat.le_of_ble_eq_true rfl) dX1_readInto_1 ⟨(by first | exact Nat.le_of_ble_eq_true rfl | (show _ ≤ (_ : Nat); simp only [headSpec]; omega)), (by first | exact Nat.le_of_ble_eq_true rfl | (show _ ≤ (_ : Nat); simp only [headSpec]; omega))⟩) (fun ad1 ct1 H locs hp X => ?_)
  obtain ⟨ha_, hb_⟩ := hp
  rw [← ha_, hb_] at X
  have X : kX E G s H locs ad (cto G (sF S 18 (rpl S jm (S.1 18) 0)) T o ad) := X.eq ((cs_anew _).trans (rfl))
  refine lv_iconst (v := 0) hx hb dX1_readInto_4 (by decide) ?_
  refine lv_istore_n (lv' := [(3, .int 0), (0, .ref (ad 12 0)), (1, .ref (ad 14 0)), (2, .int (nI jm))]) hx hb dX1_readInto_5 rfl hl (by decide) rfl (fun ls hl => ?_)
  have LOOP_6 : ∀ (d : Nat) (n : Nat), n ≤ S.2 0 4 → S.2 0 4 < n + d → ∀ (H : Heap) (locs : List Loc) (ls : Array Slot), kX E G s H locs ad (cto G (sF S 18 (rpl S jm (S.1 18) n)) T o ad) → lv_has ls 4 [(3, .int (nI n)), (0, .ref (ad 12 0)), (1, .ref (ad 14 0)), (2, .int (nI jm))] → W p l e (headSpec (Cond.code yX1_readInto cX1_readInto 4 none :: wsL_law) ({ frames := 3, cells := 0, slots := 0, locals := 90 } : Room)).room s m ([.ref (ad 12 0), .ref (ad 14 0), .int (nI jm)] : List Value).toArray below meth c H locs 0 0 (MQ below (kQv E G (fun ad1 ct1 => ad = ad1 ∧ ct1 = cto G (sF S 18 (rpl S jm (S.1 18) (S.2 0 4))) T o ad)) ([.ref (ad 12 0), .ref (ad 14 0), .int (nI jm)] : List Value).toArray s 0 0 (kB E.heap.size)) (F0 m 6 ls []) := by
    intro d
    induction d with
    | zero => intro n h1 h2; intros; exact absurd h2 (by omega)
    | succ d ih =>
      intro n h1 h2 H locs ls X hl
      refine lv_iload_n hx hb dX1_readInto_6 rfl (lv_at hl 0 rfl) ?_
      refine lv_aload_n hx hb dX1_readInto_7 rfl (lv_at hl 1 rfl) ?_
      refine k_get (index := 25) (j := 3) (ad := ad) (k := 12) (i := 0) Z X ct_12 inlX1 rfl (by decide) (inU_12 _ (List.mem_of_getElem? (i := 23) rfl)) (fun _ h => h) (v := .int (nI (S.2 0 4))) rfl dX1_readInto_8 ?_
      refine lv_icmp_ge (tgt := 73) hx hb dX1_readInto_11 (by decide) (fun c_11 => ?_) (fun c_11 => ?_)
      · have c_11 : (S.2 0 4) ≤ n := (nI_leI (a := (S.2 0 4)) (b := n) (by omega) (by omega)).mp c_11
        have hn : n = S.2 0 4 := by omega
        subst hn
        exact k_vret Z X hr hlocks (by omega) (by omega) dX1_readInto_73 ⟨rfl, rfl⟩
      · have c_11 : ¬ (S.2 0 4) ≤ n := fun h => c_11 ((nI_leI (a := (S.2 0 4)) (b := n) (by omega) (by omega)).mpr h)
        refine lv_iload_n hx hb dX1_readInto_14 rfl (lv_at hl 0 rfl) ?_
        refine lv_sipush (v := 512) hx hb dX1_readInto_15 (by decide) ?_
        refine lv_icmp_ge (tgt := 73) hx hb dX1_readInto_18 (by decide) (fun c_18 => ?_) (fun c_18 => ?_)
        · have c_18 : 512 ≤ n := (nI_leI (a := 512) (b := n) (by omega) (by omega)).mp c_18
          exact absurd c_18 (by omega)
        · have c_18 : ¬ 512 ≤ n := fun h => c_18 ((nI_leI (a := 512) (b := n) (by omega) (by omega)).mpr h)
          refine lv_aload_n hx hb dX1_readInto_21 rfl (lv_at hl 1 rfl) ?_
          refine k_get (index := 9) (j := 0) (ad := ad) (k := 12) (i := 0) Z X ct_12 inlX1 rfl (by decide) (inU_5 _ (List.mem_of_getElem? (i := 16) rfl)) (fun _ h => h) (v := .ref (ad 13 0)) rfl dX1_readInto_22 ?_
          refine lv_iload_n hx hb dX1_readInto_25 rfl (lv_at hl 0 rfl) ?_
          refine k_ild (ad := ad) (k := 13) (i := 0) Z X (ct_13 (by decide)) (vp_in_nI (by first | assumption | omega) (by decide)) dX1_readInto_26 ?_
          refine lv_topi (fun x_26 e_26 => ?_)
          obtain rfl : x_26 = S.1 15 n := e_26.trans (by first | (simp only [nI_clamp (show n < 2 ^ 31 by omega)]; done) | (simp only [nI_clamp (show n < 2 ^ 31 by omega)]; rfl) | (simp only [nI_clamp (show n < 2 ^ 31 by omega)]; simp [sI, sN]; done))
          refine lv_iload_n hx hb dX1_readInto_27 rfl (lv_at hl 3 rfl) ?_
          refine lv_icmp_eq (tgt := 34) hx hb dX1_readInto_28 (by decide) (fun c_28 => ?_) (fun c_28 => ?_)
          · have c_28 : S.1 15 n = nI jm := c_28
            refine lv_aload_n hx hb dX1_readInto_34 rfl (lv_at hl 1 rfl) ?_
            refine k_get (index := 18) (j := 2) (ad := ad) (k := 12) (i := 0) Z X ct_12 inlX1 rfl (by decide) (inU_5 _ (List.mem_of_getElem? (i := 18) rfl)) (fun _ h => h) (v := .ref (ad 13 2)) rfl dX1_readInto_35 ?_
            refine lv_iload_n hx hb dX1_readInto_38 rfl (lv_at hl 0 rfl) ?_
            refine k_ild (ad := ad) (k := 13) (i := 2) Z X (ct_13 (by decide)) (vp_in_nI (by first | assumption | omega) (by decide)) dX1_readInto_39 ?_
            refine lv_topi (fun x_39 e_39 => ?_)
            obtain rfl : x_39 = S.1 17 n := e_39.trans (by first | (simp only [nI_clamp (show n < 2 ^ 31 by omega)]; done) | (simp only [nI_clamp (show n < 2 ^ 31 by omega)]; rfl) | (simp only [nI_clamp (show n < 2 ^ 31 by omega)]; simp [sI, sN]; done))
            refine lv_iconst (v := 2) hx hb dX1_readInto_40 (by decide) ?_
            refine lv_icmp_ne (tgt := 51) hx hb dX1_readInto_41 (by decide) (fun c_41 => ?_) (fun c_41 => ?_)
            · have c_41 : S.1 17 n ≠ 2 := c_41
              obtain ⟨u, hu, hu2⟩ := hL2 n (by omega) c_41
              refine lv_aload_n hx hb dX1_readInto_51 rfl (lv_at hl 2 rfl) ?_
              refine lv_aload_n hx hb dX1_readInto_52 rfl (lv_at hl 1 rfl) ?_
              refine k_get (index := 15) (j := 1) (ad := ad) (k := 12) (i := 0) Z X ct_12 inlX1 rfl (by decide) (inU_5 _ (List.mem_of_getElem? (i := 17) rfl)) (fun _ h => h) (v := .ref (ad 13 1)) rfl dX1_readInto_53 ?_
              refine lv_iload_n hx hb dX1_readInto_56 rfl (lv_at hl 0 rfl) ?_
              refine k_ild (ad := ad) (k := 13) (i := 1) Z X (ct_13 (by decide)) (vp_in_nI (by first | assumption | omega) (by decide)) dX1_readInto_57 ?_
              refine lv_topi (fun x_57 e_57 => ?_)
              obtain rfl : x_57 = S.1 16 n := e_57.trans (by first | (simp only [nI_clamp (show n < 2 ^ 31 by omega)]; done) | (simp only [nI_clamp (show n < 2 ^ 31 by omega)]; rfl) | (simp only [nI_clamp (show n < 2 ^ 31 by omega)]; simp [sI, sN]; done))
              refine W.eq (congrArg (fun z => F0 m 58 ls [.int z, .ref (ad 14 0)]) hu2) ?_
              refine lv_aload_n hx hb dX1_readInto_58 rfl (lv_at hl 1 rfl) ?_
              refine k_get (index := 18) (j := 2) (ad := ad) (k := 12) (i := 0) Z X ct_12 inlX1 rfl (by decide) (inU_5 _ (List.mem_of_getElem? (i := 18) rfl)) (fun _ h => h) (v := .ref (ad 13 2)) rfl dX1_readInto_59 ?_
              refine lv_iload_n hx hb dX1_readInto_62 rfl (lv_at hl 0 rfl) ?_
              refine k_ild (ad := ad) (k := 13) (i := 2) Z X (ct_13 (by decide)) (vp_in_nI (by first | assumption | omega) (by decide)) dX1_readInto_63 ?_
              refine lv_topi (fun x_63 e_63 => ?_)
              obtain rfl : x_63 = S.1 17 n := e_63.trans (by first | (simp only [nI_clamp (show n < 2 ^ 31 by omega)]; done) | (simp only [nI_clamp (show n < 2 ^ 31 by omega)]; rfl) | (simp only [nI_clamp (show n < 2 ^ 31 by omega)]; simp [sI, sN]; done))
              refine k_Rv X (k_runV (As := [.int (nI u), .int (S.1 17 n)]) (rest := []) Z X (c_X2_put l E G ad (cto G (sF S 18 (rpl S jm (S.1 18) n)) T o ad) 14 0 15 0 u (rpl S jm (S.1 18) n) ct_14 (ct_15.trans (by rw [sF_s])) hu (S.1 17 n)) (k_cwV 2 Z.1.2.2.2.2 (inU_25 _ (List.mem_of_getElem? (i := 21) rfl)) (inU_13 _ (List.mem_of_getElem? (i := 12) rfl)) (inU_13 _ (List.mem_of_getElem? (i := 13) rfl)) (inU_2 _ (List.mem_of_getElem? (i := 8) rfl)) (inU_13 _ (List.mem_of_getElem? (i := 14) rfl)) rfl rfl (by decide +kernel) ⟨Nat.le_of_ble_eq_true rfl, Nat.le_of_ble_eq_true rfl⟩) (k_recv Z X ct_14 rfl) rfl hl.1 rfl (Nat.le_of_ble_eq_true rfl) dX1_readInto_64 ⟨(by first | exact Nat.le_of_ble_eq_true rfl | (show _ ≤ (_ : Nat); simp only [headSpec]; omega)), (by first | exact Nat.le_of_ble_eq_true rfl | (show _ ≤ (_ : Nat); simp only [headSpec]; omega))⟩) (fun ad1 ct1 H locs hp X => ?_)
              obtain ⟨ha_, hb_⟩ := hp
              rw [← ha_, hb_] at X
              have X : kX E G s H locs ad (cto G (sF S 18 (rpl S jm (S.1 18) (n + 1))) T o ad) := X.eq ((cs_anew _).trans (by rw [sF_F]; simp only [rpl]; rw [if_pos c_28, if_neg c_41, hu2, show cl (nI u) = u from nI_clamp (by omega)]))
              refine lv_iinc (v := (nI (n + 1))) (lv' := [(3, .int (nI (n + 1))), (0, .ref (ad 12 0)), (1, .ref (ad 14 0)), (2, .int (nI jm))]) hx hb dX1_readInto_67 hl (k := 0) rfl (nI_1 _) (by decide) rfl (fun ls hl => ?_)
              refine lv_goto (tgt := 6) hx hb dX1_readInto_70 (by decide) ?_
              exact ih (n + 1) (by omega) (by omega) _ _ _ X (lv_sub hl [0, 1, 2, 3] rfl)
            · have c_41 : S.1 17 n = 2 := c_41
              refine lv_aload_n hx hb dX1_readInto_44 rfl (lv_at hl 2 rfl) ?_
              refine k_Rv X (k_runV (As := []) (rest := []) Z X (c_X2_clear l E G ad (cto G (sF S 18 (rpl S jm (S.1 18) n)) T o ad) 14 0 15 0 (rpl S jm (S.1 18) n) ct_14 (ct_15.trans (by rw [sF_s]))) (k_cwV 0 Z.1.2.2.2.2 (inU_25 _ (List.mem_of_getElem? (i := 20) rfl)) (inU_12 _ (List.mem_of_getElem? (i := 12) rfl)) (inU_12 _ (List.mem_of_getElem? (i := 13) rfl)) (inU_2 _ (List.mem_of_getElem? (i := 8) rfl)) (inU_12 _ (List.mem_of_getElem? (i := 14) rfl)) rfl rfl (by decide +kernel) ⟨Nat.le_of_ble_eq_true rfl, Nat.le_of_ble_eq_true rfl⟩) (k_recv Z X ct_14 rfl) rfl hl.1 rfl (Nat.le_of_ble_eq_true rfl) dX1_readInto_45 ⟨(by first | exact Nat.le_of_ble_eq_true rfl | (show _ ≤ (_ : Nat); simp only [headSpec]; omega)), (by first | exact Nat.le_of_ble_eq_true rfl | (show _ ≤ (_ : Nat); simp only [headSpec]; omega))⟩) (fun ad1 ct1 H locs hp X => ?_)
              obtain ⟨ha_, hb_⟩ := hp
              rw [← ha_, hb_] at X
              have X : kX E G s H locs ad (cto G (sF S 18 (rpl S jm (S.1 18) (n + 1))) T o ad) := X.eq ((cs_anew _).trans (by rw [sF_F]; simp only [rpl]; rw [if_pos c_28, if_pos c_41]))
              refine lv_goto (tgt := 67) hx hb dX1_readInto_48 (by decide) ?_
              refine lv_iinc (v := (nI (n + 1))) (lv' := [(3, .int (nI (n + 1))), (0, .ref (ad 12 0)), (1, .ref (ad 14 0)), (2, .int (nI jm))]) hx hb dX1_readInto_67 hl (k := 0) rfl (nI_1 _) (by decide) rfl (fun ls hl => ?_)
              refine lv_goto (tgt := 6) hx hb dX1_readInto_70 (by decide) ?_
              exact ih (n + 1) (by omega) (by omega) _ _ _ X (lv_sub hl [0, 1, 2, 3] rfl)
          · have c_28 : ¬ S.1 15 n = nI jm := c_28
            refine lv_goto (tgt := 67) hx hb dX1_readInto_31 (by decide) ?_
            have X : kX E G s H locs ad (cto G (sF S 18 (rpl S jm (S.1 18) (n + 1))) T o ad) := X.eq (by simp only [rpl]; rw [if_neg c_28])
            refine lv_iinc (v := (nI (n + 1))) (lv' := [(3, .int (nI (n + 1))), (0, .ref (ad 12 0)), (1, .ref (ad 14 0)), (2, .int (nI jm))]) hx hb dX1_readInto_67 hl (k := 0) rfl (nI_1 _) (by decide) rfl (fun ls hl => ?_)
            refine lv_goto (tgt := 6) hx hb dX1_readInto_70 (by decide) ?_
            exact ih (n + 1) (by omega) (by omega) _ _ _ X (lv_sub hl [0, 1, 2, 3] rfl)
  exact LOOP_6 (S.2 0 4 + 1) 0 (by omega) (by omega) _ _ _ X (lv_sub hl [0, 1, 2, 3] rfl)
