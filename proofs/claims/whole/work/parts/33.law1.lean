/-! THE LAW'S CALLS of the class -/
theorem kW.cell {b : Nat} {G : kG} {ad : kAd} {ct : kCt} {H : Heap} {k i : Nat} {e e' : va_E} (h : kW b G ad (cup ct k i e) H) (he : ∀ q, va_at G.1 vwCl (q, e) H → va_at G.1 vwCl (q, e') H) : kW b G ad (cup ct k i e') H := by
  obtain ⟨h1, h2, h3⟩ := h
  have key : ∀ (k' i' : Nat) (x : va_E), cup ct k i e' k' i' = some x → ∃ y, cup ct k i e k' i' = some y ∧ ∀ q, va_at G.1 vwCl (q, y) H → va_at G.1 vwCl (q, x) H := by
    intro k' i' x hx
    by_cases z : k' = k ∧ i' = i
    · rw [z.1, z.2, cup_s] at hx
      cases hx
      exact ⟨e, by rw [z.1, z.2, cup_s], he⟩
    · rw [cup_n z] at hx
      exact ⟨x, by rw [cup_n z]; exact hx, fun _ h => h⟩
  refine ⟨h1, fun k' i' x hx => ?_, fun k1 i1 k2 i2 e1 e2 g1 g2 g3 => ?_⟩
  · obtain ⟨y, r1, r2⟩ := key k' i' x hx
    exact ⟨r2 _ (h2 k' i' y r1).1, (h2 k' i' y r1).2⟩
  · obtain ⟨y1, r1, -⟩ := key k1 i1 e1 g1
    obtain ⟨y2, r2, -⟩ := key k2 i2 e2 g2
    exact h3 k1 i1 k2 i2 y1 y2 r1 r2 g3
theorem arrV_c {c : ClassId} {n : Nat} {f g : Nat → Value} (h : ∀ j, j < n → f j = g j) : arrV c n f = arrV c n g := by
  unfold arrV
  congr 1
  congr 1
  funext j
  exact h j.val j.isLt
theorem out_st {E : State} {G : kG} {s : State} {H : Heap} {locs : List Loc} {S T : kSt} {o v : Int64} {ad : kAd} (X : kX E G s H locs ad (cup (cto G S T o ad) 18 0 (.inl (G.2.2.2.2.2.1, 1, .inr (.inl (vp_updL (fun _ => o) (0 : Int32).toNatClampNeg v)))))) : kX E G s H locs ad (cto G S T v ad) := by
  have X2 : kX E G s H locs ad (cup (cto G S T o ad) 18 0 (.inl (G.2.2.2.2.2.1, 1, .inr (.inl (fun _ => v))))) := ⟨X.1.cell (fun q hq => by
    show H[q]? = some (vp_cell _ _)
    have hq2 : H[q]? = some (vp_cell _ _) := hq
    rw [hq2, vp_cell_l, vp_cell_l]
    exact congrArg some (arrV_c (fun j hj => by rw [show j = 0 by omega]; simp [vp_updL]))), X.2⟩
  refine kXz X2 rfl ?_
  funext k i
  by_cases h : k = 18 ∧ i = 0
  · rw [h.1, h.2, cup_s]; simp only [cto, if_true]
  · rw [cup_n h]
    match k with
    | 18 => simp only [cto]; rw [if_neg (fun z => h ⟨rfl, z⟩), if_neg (fun z => h ⟨rfl, z⟩)]
    | 0 => simp only [cto]
    | 1 => simp only [cto]
    | 2 => simp only [cto]
    | 3 => simp only [cto]
    | 4 => simp only [cto]
    | 5 => simp only [cto]
    | 6 => simp only [cto]
    | 7 => simp only [cto]
    | 8 => simp only [cto]
    | 9 => simp only [cto]
    | 10 => simp only [cto]
    | 11 => simp only [cto]
    | 12 => simp only [cto]
    | 13 => simp only [cto]
    | 14 => simp only [cto]
    | 15 => simp only [cto]
    | 16 => simp only [cto]
    | 17 => simp only [cto]
    | k + 19 => simp only [cto]
/-- how a call of the law ends: its number, the class's state and the answer where it is 0, nothing else changed where not -/
def kLP (G : kG) (S T : kSt) (o : Int64) (ad : kAd) (C : Int32) (res : Int32) (R1 : kSt → Prop) (r : Int32) (ad1 : kAd) (ct1 : kCt) : Prop :=
  r = C ∧ AK ad ad1 ∧ ((C = 0 ∧ ∃ S1, R1 S1 ∧ ct1 = cto G S1 T res.toInt64 ad1) ∨ (C ≠ 0 ∧ ct1 = cto G S T o ad1))
theorem dL_user_0 : decode cL_user 0 = .ok (.aload_n 2, 1) := by decide +kernel
theorem dL_user_1 : decode cL_user 1 = .ok (.iconst 0, 1) := by decide +kernel
theorem dL_user_2 : decode cL_user 2 = .ok (.aload_n 0, 1) := by decide +kernel
theorem dL_user_3 : decode cL_user 3 = .ok (.iload_n 1, 1) := by decide +kernel
theorem dL_user_4 : decode cL_user 4 = .ok (.invokevirtual 7, 3) := by decide +kernel
theorem dL_user_7 : decode cL_user 7 = .ok (.i2l, 1) := by decide +kernel
theorem dL_user_8 : decode cL_user 8 = .ok (.lastore, 1) := by decide +kernel
theorem dL_user_9 : decode cL_user 9 = .ok (.goto 9, 3) := by decide +kernel
theorem dL_user_12 : decode cL_user 12 = .ok (.astore_n 3, 1) := by decide +kernel
theorem dL_user_13 : decode cL_user 13 = .ok (.iconst 1, 1) := by decide +kernel
theorem dL_user_14 : decode cL_user 14 = .ok (.ireturn, 1) := by decide +kernel
theorem dL_user_15 : decode cL_user 15 = .ok (.astore_n 3, 1) := by decide +kernel
theorem dL_user_16 : decode cL_user 16 = .ok (.iconst 2, 1) := by decide +kernel
theorem dL_user_17 : decode cL_user 17 = .ok (.ireturn, 1) := by decide +kernel
theorem dL_user_18 : decode cL_user 18 = .ok (.iconst 0, 1) := by decide +kernel
theorem dL_user_19 : decode cL_user 19 = .ok (.ireturn, 1) := by decide +kernel
set_option maxHeartbeats 1000000 in
set_option maxRecDepth 100000 in
theorem c_L_user (l : Launch) (E : State) (G : kG) (S T : kSt) (o : Int64) (ad : kAd) (xr : Int32) (hE : kE l E G) (hS : okN S) (hL : okL S) : vx_Met l yL_user (.codeWith yL_user cL_user 4 (some .int) [(0, 9, 12, 13), (0, 9, 15, 15)] :: wsL_law) ({ frames := 16, cells := 20, slots := 400, locals := 460 } : Room) (va_Pc [.ref (ad 0 0), .int xr, .ref (ad 18 0)] (kPre E G ad (cto G S T o ad))) (kQi E G (fun r ad1 ct1 => kLP G S T o ad (cUser S xr) (nI (S.2 0 0)) (fun S1 => ∃ cap : Nat, capok (S.2 0 0) cap ∧ S1 = gU S xr cap) r ad1 ct1)) (kXC E G (fun _ _ _ => False)) 20 400 (kB E.heap.size) := by
  refine vx_ofWH (cc := cL_user) (maxL := 4) (ret := (some .int)) (by decide) rfl ?_
  intro p e s m args below meth c s₁ B hml hv
  obtain ⟨rfl, hM, hK, hW0⟩ := hv
  have hlocks := B.notSynchronized
  have hr := B.returns
  have Z : kZ p m c cL_user 4 s _ wsL_law RL E G := ⟨⟨B.exec, B.bytes, hml, findClass_of_methodNamed B.named, fun w h => atoms_spec (ws := .codeWith yL_user cL_user 4 (some .int) [(0, 9, 12, 13), (0, 9, 15, 15)] :: wsL_law) B.pre w (List.mem_cons_of_mem _ h)⟩, hM, hK⟩
  have hx := Z.1.1
  have hb := Z.1.2.1
  have X := kX.of hW0
  have hl := lv_entry ([.ref (ad 0 0), .int xr, .ref (ad 18 0)]) (n := 4) (Nat.le_of_ble_eq_true rfl)
  rw [lg_entry_eq]
  generalize (lg_sl ([.ref (ad 0 0), .int xr, .ref (ad 18 0)]) ++ List.replicate (4 - (lg_sl ([.ref (ad 0 0), .int xr, .ref (ad 18 0)])).length) Slot.unset).toArray = ls at hl ⊢
  have hl : lv_has ls 4 [(0, .ref (ad 0 0)), (1, .int xr), (2, .ref (ad 18 0))] := hl
  have htab := vx_table (x := yL_user) B (atoms_spec (ws := .codeWith yL_user cL_user 4 (some .int) [(0, 9, 12, 13), (0, 9, 15, 15)] :: wsL_law) B.pre _ List.mem_cons_self)
  refine lv_aload_n hx hb dL_user_0 rfl (lv_at hl 2 rfl) ?_
  refine lv_iconst (v := 0) hx hb dL_user_1 (by decide) ?_
  refine lv_aload_n hx hb dL_user_2 rfl (lv_at hl 0 rfl) ?_
  refine lv_iload_n hx hb dL_user_3 rfl (lv_at hl 1 rfl) ?_
  refine k_xRi X (k_xrunV (As := [.int xr]) (rest := [.int 0, .ref (ad 18 0)]) Z X (c_X7_user l E G S T o ad xr hE hS hL) (k_cwV 1 Z.1.2.2.2.2 (inU_7 _ (List.mem_of_getElem? (i := 10) rfl)) (inU_7 _ (List.mem_of_getElem? (i := 11) rfl)) (inU_7 _ (List.mem_of_getElem? (i := 12) rfl)) (inU_1 _ (List.mem_of_getElem? (i := 2) rfl)) (inU_7 _ (List.mem_of_getElem? (i := 13) rfl)) rfl rfl (by decide +kernel) ⟨Nat.le_of_ble_eq_true rfl, Nat.le_of_ble_eq_true rfl⟩) (k_recv Z X ct_0 rfl) rfl hl.1 rfl (Nat.le_of_ble_eq_true rfl) dL_user_4 ⟨(Nat.le_of_ble_eq_true rfl), (Nat.le_of_ble_eq_true rfl)⟩) (fun x ce q9 ad1 ct1 H locs hp X x1 x2 x3 => ?_) (fun r_4 ad1 ct1 H locs hp X => ?_)
  · obtain ⟨hq, ha_, hb_⟩ := hp
    rw [← ha_, hb_] at X
    rcases hq with ⟨hk, rfl⟩ | ⟨hk, rfl⟩
    · refine vx_catch (own := RL) (name := "java/lang/IllegalArgumentException") (E := "java/lang/IllegalArgumentException") Z.1.2.2.2.1 [] ⟨0, 9, 12, 13⟩ [⟨0, 9, 15, 15⟩] (htab.trans rfl) (fun z hz => nomatch hz) rfl (by decide) (Z.1.2.2.2.2 _ (inU_7 _ (List.mem_of_getElem? (i := 9) rfl))) (hE.word Z.2.1 (List.mem_of_getElem? (i := 0) rfl)) x1 x2 x3 ?_
      refine lv_astore_n (lv' := [(3, .ref q9), (0, .ref (ad 0 0)), (1, .int xr), (2, .ref (ad 18 0))]) hx hb dL_user_12 rfl hl (by decide) rfl (fun ls hl => ?_)
      refine lv_iconst (v := 1) hx hb dL_user_13 (by decide) ?_
      exact vx_ret (k_iret Z X hr hlocks rfl (Nat.le_of_ble_eq_true rfl) (Nat.le_of_ble_eq_true rfl) dL_user_14 ⟨hk.symm, AK.rf, Or.inr ⟨by rw [hk]; decide, rfl⟩⟩)
    · refine vx_catch (own := RL) (name := "java/lang/IllegalStateException") (E := "java/lang/IllegalStateException") Z.1.2.2.2.1 [⟨0, 9, 12, 13⟩] ⟨0, 9, 15, 15⟩ [] (htab.trans rfl) (by intro z hz; simp only [List.mem_cons, List.not_mem_nil, or_false] at hz; rcases hz with rfl; exact Or.inr ⟨by decide, _, (Z.1.2.2.2.2 _ (inU_7 _ (List.mem_of_getElem? (i := 9) rfl))), hE.nc Z.2.1 (by decide)⟩) rfl (by decide) (hE.word Z.2.1 (List.mem_of_getElem? (i := 13) rfl)) (hE.word Z.2.1 (List.mem_of_getElem? (i := 1) rfl)) x1 x2 x3 ?_
      refine lv_astore_n (lv' := [(3, .ref q9), (0, .ref (ad 0 0)), (1, .int xr), (2, .ref (ad 18 0))]) hx hb dL_user_15 rfl hl (by decide) rfl (fun ls hl => ?_)
      refine lv_iconst (v := 2) hx hb dL_user_16 (by decide) ?_
      exact vx_ret (k_iret Z X hr hlocks rfl (Nat.le_of_ble_eq_true rfl) (Nat.le_of_ble_eq_true rfl) dL_user_17 ⟨hk.symm, AK.rf, Or.inr ⟨by rw [hk]; decide, rfl⟩⟩)
  obtain ⟨⟨hk, rfl⟩, hAK, cap, hcap, hb_⟩ := hp
  rw [hb_] at X
  refine W.eq (congrArg (fun z => F0 m 7 ls [.int (nI (S.2 0 0)), .int 0, .ref z]) hAK.2.2.symm) ?_
  refine lv_i2l (v := (nI (S.2 0 0)).toInt64) hx hb dL_user_7 rfl ?_
  refine k_lst Z X ct_18 (by unfold vp_in; decide) dL_user_8 (fun H locs X => ?_)
  have X := out_st X
  refine lv_goto (tgt := 18) hx hb dL_user_9 (by decide) ?_
  refine lv_iconst (v := 0) hx hb dL_user_18 (by decide) ?_
  exact vx_ret (k_iret Z X hr hlocks rfl (Nat.le_of_ble_eq_true rfl) (Nat.le_of_ble_eq_true rfl) dL_user_19 ⟨hk.symm, hAK, Or.inl ⟨hk, _, ⟨cap, hcap, rfl⟩, rfl⟩⟩)
theorem dL_role_0 : decode cL_role 0 = .ok (.aload_n 3, 1) := by decide +kernel
theorem dL_role_1 : decode cL_role 1 = .ok (.iconst 0, 1) := by decide +kernel
theorem dL_role_2 : decode cL_role 2 = .ok (.aload_n 0, 1) := by decide +kernel
theorem dL_role_3 : decode cL_role 3 = .ok (.iload_n 1, 1) := by decide +kernel
theorem dL_role_4 : decode cL_role 4 = .ok (.iload_n 2, 1) := by decide +kernel
theorem dL_role_5 : decode cL_role 5 = .ok (.invokevirtual 17, 3) := by decide +kernel
theorem dL_role_8 : decode cL_role 8 = .ok (.i2l, 1) := by decide +kernel
theorem dL_role_9 : decode cL_role 9 = .ok (.lastore, 1) := by decide +kernel
theorem dL_role_10 : decode cL_role 10 = .ok (.goto 11, 3) := by decide +kernel
theorem dL_role_13 : decode cL_role 13 = .ok (.astore 4, 2) := by decide +kernel
theorem dL_role_15 : decode cL_role 15 = .ok (.iconst 1, 1) := by decide +kernel
theorem dL_role_16 : decode cL_role 16 = .ok (.ireturn, 1) := by decide +kernel
theorem dL_role_17 : decode cL_role 17 = .ok (.astore 4, 2) := by decide +kernel
theorem dL_role_19 : decode cL_role 19 = .ok (.iconst 2, 1) := by decide +kernel
theorem dL_role_20 : decode cL_role 20 = .ok (.ireturn, 1) := by decide +kernel
theorem dL_role_21 : decode cL_role 21 = .ok (.iconst 0, 1) := by decide +kernel
theorem dL_role_22 : decode cL_role 22 = .ok (.ireturn, 1) := by decide +kernel
set_option maxHeartbeats 1000000 in
set_option maxRecDepth 100000 in
theorem c_L_role (l : Launch) (E : State) (G : kG) (S T : kSt) (o : Int64) (ad : kAd) (xu xr : Int32) (hE : kE l E G) (hS : okN S) (hL : okL S) (hK9 : okK S) : vx_Met l yL_role (.codeWith yL_role cL_role 5 (some .int) [(0, 10, 13, 21), (0, 10, 17, 13)] :: wsL_law) ({ frames := 16, cells := 20, slots := 400, locals := 460 } : Room) (va_Pc [.ref (ad 0 0), .int xu, .int xr, .ref (ad 18 0)] (kPre E G ad (cto G S T o ad))) (kQi E G (fun r ad1 ct1 => kLP G S T o ad (cRole S xu xr) (S.1 1 (cl xu)) (fun S1 => S1 = oRole S (kdS S) xu xr) r ad1 ct1)) (kXC E G (fun _ _ _ => False)) 20 400 (kB E.heap.size) := by
  refine vx_ofWH (cc := cL_role) (maxL := 5) (ret := (some .int)) (by decide) rfl ?_
  intro p e s m args below meth c s₁ B hml hv
  obtain ⟨rfl, hM, hK, hW0⟩ := hv
  have hlocks := B.notSynchronized
  have hr := B.returns
  have Z : kZ p m c cL_role 5 s _ wsL_law RL E G := ⟨⟨B.exec, B.bytes, hml, findClass_of_methodNamed B.named, fun w h => atoms_spec (ws := .codeWith yL_role cL_role 5 (some .int) [(0, 10, 13, 21), (0, 10, 17, 13)] :: wsL_law) B.pre w (List.mem_cons_of_mem _ h)⟩, hM, hK⟩
  have hx := Z.1.1
  have hb := Z.1.2.1
  have X := kX.of hW0
  have hl := lv_entry ([.ref (ad 0 0), .int xu, .int xr, .ref (ad 18 0)]) (n := 5) (Nat.le_of_ble_eq_true rfl)
  rw [lg_entry_eq]
  generalize (lg_sl ([.ref (ad 0 0), .int xu, .int xr, .ref (ad 18 0)]) ++ List.replicate (5 - (lg_sl ([.ref (ad 0 0), .int xu, .int xr, .ref (ad 18 0)])).length) Slot.unset).toArray = ls at hl ⊢
  have hl : lv_has ls 5 [(0, .ref (ad 0 0)), (1, .int xu), (2, .int xr), (3, .ref (ad 18 0))] := hl
  have htab := vx_table (x := yL_role) B (atoms_spec (ws := .codeWith yL_role cL_role 5 (some .int) [(0, 10, 13, 21), (0, 10, 17, 13)] :: wsL_law) B.pre _ List.mem_cons_self)
  refine lv_aload_n hx hb dL_role_0 rfl (lv_at hl 3 rfl) ?_
  refine lv_iconst (v := 0) hx hb dL_role_1 (by decide) ?_
  refine lv_aload_n hx hb dL_role_2 rfl (lv_at hl 0 rfl) ?_
  refine lv_iload_n hx hb dL_role_3 rfl (lv_at hl 1 rfl) ?_
  refine lv_iload_n hx hb dL_role_4 rfl (lv_at hl 2 rfl) ?_
  refine k_xRi X (k_xrunV (As := [.int xu, .int xr]) (rest := [.int 0, .ref (ad 18 0)]) Z X (c_X7_role l E G S T o ad xu xr hE hS hL hK9) (k_cwV 2 Z.1.2.2.2.2 (inU_9 _ (List.mem_of_getElem? (i := 15) rfl)) (inU_9 _ (List.mem_of_getElem? (i := 16) rfl)) (inU_9 _ (List.mem_of_getElem? (i := 17) rfl)) (inU_1 _ (List.mem_of_getElem? (i := 2) rfl)) (inU_9 _ (List.mem_of_getElem? (i := 18) rfl)) rfl rfl (by decide +kernel) ⟨Nat.le_of_ble_eq_true rfl, Nat.le_of_ble_eq_true rfl⟩) (k_recv Z X ct_0 rfl) rfl hl.1 rfl (Nat.le_of_ble_eq_true rfl) dL_role_5 ⟨(Nat.le_of_ble_eq_true rfl), (Nat.le_of_ble_eq_true rfl)⟩) (fun x ce q9 ad1 ct1 H locs hp X x1 x2 x3 => ?_) (fun r_5 ad1 ct1 H locs hp X => ?_)
  · obtain ⟨hq, ha_, hb_⟩ := hp
    rw [← ha_, hb_] at X
    rcases hq with ⟨hk, rfl⟩ | ⟨hk, rfl⟩
    · refine vx_catch (own := RL) (name := "java/lang/IndexOutOfBoundsException") (E := "java/lang/IndexOutOfBoundsException") Z.1.2.2.2.1 [] ⟨0, 10, 13, 21⟩ [⟨0, 10, 17, 13⟩] (htab.trans rfl) (fun z hz => nomatch hz) rfl (by decide) (Z.1.2.2.2.2 _ (inU_9 _ (List.mem_of_getElem? (i := 14) rfl))) (hE.word Z.2.1 (List.mem_of_getElem? (i := 2) rfl)) x1 x2 x3 ?_
      refine lv_astore (lv' := [(4, .ref q9), (0, .ref (ad 0 0)), (1, .int xu), (2, .int xr), (3, .ref (ad 18 0))]) hx hb dL_role_13 hl (by decide) rfl (fun ls hl => ?_)
      refine lv_iconst (v := 1) hx hb dL_role_15 (by decide) ?_
      exact vx_ret (k_iret Z X hr hlocks rfl (Nat.le_of_ble_eq_true rfl) (Nat.le_of_ble_eq_true rfl) dL_role_16 ⟨hk.symm, AK.rf, Or.inr ⟨by rw [hk]; decide, rfl⟩⟩)
    · refine vx_catch (own := RL) (name := "java/lang/IllegalArgumentException") (E := "java/lang/IllegalArgumentException") Z.1.2.2.2.1 [⟨0, 10, 13, 21⟩] ⟨0, 10, 17, 13⟩ [] (htab.trans rfl) (by intro z hz; simp only [List.mem_cons, List.not_mem_nil, or_false] at hz; rcases hz with rfl; exact Or.inr ⟨by decide, _, (Z.1.2.2.2.2 _ (inU_9 _ (List.mem_of_getElem? (i := 14) rfl))), hE.nc Z.2.1 (by decide)⟩) rfl (by decide) (Z.1.2.2.2.2 _ (inU_7 _ (List.mem_of_getElem? (i := 9) rfl))) (hE.word Z.2.1 (List.mem_of_getElem? (i := 0) rfl)) x1 x2 x3 ?_
      refine lv_astore (lv' := [(4, .ref q9), (0, .ref (ad 0 0)), (1, .int xu), (2, .int xr), (3, .ref (ad 18 0))]) hx hb dL_role_17 hl (by decide) rfl (fun ls hl => ?_)
      refine lv_iconst (v := 2) hx hb dL_role_19 (by decide) ?_
      exact vx_ret (k_iret Z X hr hlocks rfl (Nat.le_of_ble_eq_true rfl) (Nat.le_of_ble_eq_true rfl) dL_role_20 ⟨hk.symm, AK.rf, Or.inr ⟨by rw [hk]; decide, rfl⟩⟩)
  obtain ⟨⟨hk, rfl⟩, ha_, hb_⟩ := hp
  rw [← ha_, hb_] at X
  refine lv_i2l (v := (S.1 1 (cl xu)).toInt64) hx hb dL_role_8 rfl ?_
  refine k_lst Z X ct_18 (by unfold vp_in; decide) dL_role_9 (fun H locs X => ?_)
  have X := out_st X
  refine lv_goto (tgt := 21) hx hb dL_role_10 (by decide) ?_
  refine lv_iconst (v := 0) hx hb dL_role_21 (by decide) ?_
  exact vx_ret (k_iret Z X hr hlocks rfl (Nat.le_of_ble_eq_true rfl) (Nat.le_of_ble_eq_true rfl) dL_role_22 ⟨hk.symm, AK.rf, Or.inl ⟨hk, _, rfl, rfl⟩⟩)
theorem dL_ends_0 : decode cL_ends 0 = .ok (.aload_n 3, 1) := by decide +kernel
theorem dL_ends_1 : decode cL_ends 1 = .ok (.iconst 0, 1) := by decide +kernel
theorem dL_ends_2 : decode cL_ends 2 = .ok (.aload_n 0, 1) := by decide +kernel
theorem dL_ends_3 : decode cL_ends 3 = .ok (.iload_n 1, 1) := by decide +kernel
theorem dL_ends_4 : decode cL_ends 4 = .ok (.iload_n 2, 1) := by decide +kernel
theorem dL_ends_5 : decode cL_ends 5 = .ok (.invokevirtual 23, 3) := by decide +kernel
theorem dL_ends_8 : decode cL_ends 8 = .ok (.i2l, 1) := by decide +kernel
theorem dL_ends_9 : decode cL_ends 9 = .ok (.lastore, 1) := by decide +kernel
theorem dL_ends_10 : decode cL_ends 10 = .ok (.goto 11, 3) := by decide +kernel
theorem dL_ends_13 : decode cL_ends 13 = .ok (.astore 4, 2) := by decide +kernel
theorem dL_ends_15 : decode cL_ends 15 = .ok (.iconst 1, 1) := by decide +kernel
theorem dL_ends_16 : decode cL_ends 16 = .ok (.ireturn, 1) := by decide +kernel
theorem dL_ends_17 : decode cL_ends 17 = .ok (.astore 4, 2) := by decide +kernel
theorem dL_ends_19 : decode cL_ends 19 = .ok (.iconst 2, 1) := by decide +kernel
theorem dL_ends_20 : decode cL_ends 20 = .ok (.ireturn, 1) := by decide +kernel
theorem dL_ends_21 : decode cL_ends 21 = .ok (.iconst 0, 1) := by decide +kernel
theorem dL_ends_22 : decode cL_ends 22 = .ok (.ireturn, 1) := by decide +kernel
set_option maxHeartbeats 1000000 in
set_option maxRecDepth 100000 in
theorem c_L_ends (l : Launch) (E : State) (G : kG) (S T : kSt) (o : Int64) (ad : kAd) (xu xh : Int32) (hE : kE l E G) (hS : okN S) (hL : okL S) (hK9 : okK S) : vx_Met l yL_ends (.codeWith yL_ends cL_ends 5 (some .int) [(0, 10, 13, 21), (0, 10, 17, 13)] :: wsL_law) ({ frames := 16, cells := 20, slots := 400, locals := 460 } : Room) (va_Pc [.ref (ad 0 0), .int xu, .int xh, .ref (ad 18 0)] (kPre E G ad (cto G S T o ad))) (kQi E G (fun r ad1 ct1 => kLP G S T o ad (cEnds S xu xh) (vEnds S xh) (fun S1 => S1 = oEnds S (kdS S) xu xh) r ad1 ct1)) (kXC E G (fun _ _ _ => False)) 20 400 (kB E.heap.size) := by
  refine vx_ofWH (cc := cL_ends) (maxL := 5) (ret := (some .int)) (by decide) rfl ?_
  intro p e s m args below meth c s₁ B hml hv
  obtain ⟨rfl, hM, hK, hW0⟩ := hv
  have hlocks := B.notSynchronized
  have hr := B.returns
  have Z : kZ p m c cL_ends 5 s _ wsL_law RL E G := ⟨⟨B.exec, B.bytes, hml, findClass_of_methodNamed B.named, fun w h => atoms_spec (ws := .codeWith yL_ends cL_ends 5 (some .int) [(0, 10, 13, 21), (0, 10, 17, 13)] :: wsL_law) B.pre w (List.mem_cons_of_mem _ h)⟩, hM, hK⟩
  have hx := Z.1.1
  have hb := Z.1.2.1
  have X := kX.of hW0
  have hl := lv_entry ([.ref (ad 0 0), .int xu, .int xh, .ref (ad 18 0)]) (n := 5) (Nat.le_of_ble_eq_true rfl)
  rw [lg_entry_eq]
  generalize (lg_sl ([.ref (ad 0 0), .int xu, .int xh, .ref (ad 18 0)]) ++ List.replicate (5 - (lg_sl ([.ref (ad 0 0), .int xu, .int xh, .ref (ad 18 0)])).length) Slot.unset).toArray = ls at hl ⊢
  have hl : lv_has ls 5 [(0, .ref (ad 0 0)), (1, .int xu), (2, .int xh), (3, .ref (ad 18 0))] := hl
  have htab := vx_table (x := yL_ends) B (atoms_spec (ws := .codeWith yL_ends cL_ends 5 (some .int) [(0, 10, 13, 21), (0, 10, 17, 13)] :: wsL_law) B.pre _ List.mem_cons_self)
  refine lv_aload_n hx hb dL_ends_0 rfl (lv_at hl 3 rfl) ?_
  refine lv_iconst (v := 0) hx hb dL_ends_1 (by decide) ?_
  refine lv_aload_n hx hb dL_ends_2 rfl (lv_at hl 0 rfl) ?_
  refine lv_iload_n hx hb dL_ends_3 rfl (lv_at hl 1 rfl) ?_
  refine lv_iload_n hx hb dL_ends_4 rfl (lv_at hl 2 rfl) ?_
  refine k_xRi X (k_xrunV (As := [.int xu, .int xh]) (rest := [.int 0, .ref (ad 18 0)]) Z X (c_X7_ends l E G S T o ad xu xh hE hS hL hK9) (k_cwV 2 Z.1.2.2.2.2 (inU_13 _ (List.mem_of_getElem? (i := 10) rfl)) (inU_13 _ (List.mem_of_getElem? (i := 11) rfl)) (inU_13 _ (List.mem_of_getElem? (i := 12) rfl)) (inU_1 _ (List.mem_of_getElem? (i := 2) rfl)) (inU_13 _ (List.mem_of_getElem? (i := 13) rfl)) rfl rfl (by decide +kernel) ⟨Nat.le_of_ble_eq_true rfl, Nat.le_of_ble_eq_true rfl⟩) (k_recv Z X ct_0 rfl) rfl hl.1 rfl (Nat.le_of_ble_eq_true rfl) dL_ends_5 ⟨(Nat.le_of_ble_eq_true rfl), (Nat.le_of_ble_eq_true rfl)⟩) (fun x ce q9 ad1 ct1 H locs hp X x1 x2 x3 => ?_) (fun r_5 ad1 ct1 H locs hp X => ?_)
  · obtain ⟨hq, ha_, hb_⟩ := hp
    rw [← ha_, hb_] at X
    rcases hq with ⟨hk, rfl⟩ | ⟨hk, rfl⟩
    · refine vx_catch (own := RL) (name := "java/lang/IndexOutOfBoundsException") (E := "java/lang/IndexOutOfBoundsException") Z.1.2.2.2.1 [] ⟨0, 10, 13, 21⟩ [⟨0, 10, 17, 13⟩] (htab.trans rfl) (fun z hz => nomatch hz) rfl (by decide) (Z.1.2.2.2.2 _ (inU_9 _ (List.mem_of_getElem? (i := 14) rfl))) (hE.word Z.2.1 (List.mem_of_getElem? (i := 2) rfl)) x1 x2 x3 ?_
      refine lv_astore (lv' := [(4, .ref q9), (0, .ref (ad 0 0)), (1, .int xu), (2, .int xh), (3, .ref (ad 18 0))]) hx hb dL_ends_13 hl (by decide) rfl (fun ls hl => ?_)
      refine lv_iconst (v := 1) hx hb dL_ends_15 (by decide) ?_
      exact vx_ret (k_iret Z X hr hlocks rfl (Nat.le_of_ble_eq_true rfl) (Nat.le_of_ble_eq_true rfl) dL_ends_16 ⟨hk.symm, AK.rf, Or.inr ⟨by rw [hk]; decide, rfl⟩⟩)
    · refine vx_catch (own := RL) (name := "java/lang/IllegalArgumentException") (E := "java/lang/IllegalArgumentException") Z.1.2.2.2.1 [⟨0, 10, 13, 21⟩] ⟨0, 10, 17, 13⟩ [] (htab.trans rfl) (by intro z hz; simp only [List.mem_cons, List.not_mem_nil, or_false] at hz; rcases hz with rfl; exact Or.inr ⟨by decide, _, (Z.1.2.2.2.2 _ (inU_9 _ (List.mem_of_getElem? (i := 14) rfl))), hE.nc Z.2.1 (by decide)⟩) rfl (by decide) (Z.1.2.2.2.2 _ (inU_7 _ (List.mem_of_getElem? (i := 9) rfl))) (hE.word Z.2.1 (List.mem_of_getElem? (i := 0) rfl)) x1 x2 x3 ?_
      refine lv_astore (lv' := [(4, .ref q9), (0, .ref (ad 0 0)), (1, .int xu), (2, .int xh), (3, .ref (ad 18 0))]) hx hb dL_ends_17 hl (by decide) rfl (fun ls hl => ?_)
      refine lv_iconst (v := 2) hx hb dL_ends_19 (by decide) ?_
      exact vx_ret (k_iret Z X hr hlocks rfl (Nat.le_of_ble_eq_true rfl) (Nat.le_of_ble_eq_true rfl) dL_ends_20 ⟨hk.symm, AK.rf, Or.inr ⟨by rw [hk]; decide, rfl⟩⟩)
  obtain ⟨⟨hk, rfl⟩, ha_, hb_⟩ := hp
  rw [← ha_, hb_] at X
  refine lv_i2l (v := (vEnds S xh).toInt64) hx hb dL_ends_8 rfl ?_
  refine k_lst Z X ct_18 (by unfold vp_in; decide) dL_ends_9 (fun H locs X => ?_)
  have X := out_st X
  refine lv_goto (tgt := 21) hx hb dL_ends_10 (by decide) ?_
  refine lv_iconst (v := 0) hx hb dL_ends_21 (by decide) ?_
  exact vx_ret (k_iret Z X hr hlocks rfl (Nat.le_of_ble_eq_true rfl) (Nat.le_of_ble_eq_true rfl) dL_ends_22 ⟨hk.symm, AK.rf, Or.inl ⟨hk, _, rfl, rfl⟩⟩)
theorem dL_budget_0 : decode cL_budget 0 = .ok (.aload_n 3, 1) := by decide +kernel
theorem dL_budget_1 : decode cL_budget 1 = .ok (.iconst 0, 1) := by decide +kernel
theorem dL_budget_2 : decode cL_budget 2 = .ok (.aload_n 0, 1) := by decide +kernel
theorem dL_budget_3 : decode cL_budget 3 = .ok (.iload_n 1, 1) := by decide +kernel
theorem dL_budget_4 : decode cL_budget 4 = .ok (.iload_n 2, 1) := by decide +kernel
theorem dL_budget_5 : decode cL_budget 5 = .ok (.invokevirtual 26, 3) := by decide +kernel
theorem dL_budget_8 : decode cL_budget 8 = .ok (.i2l, 1) := by decide +kernel
theorem dL_budget_9 : decode cL_budget 9 = .ok (.lastore, 1) := by decide +kernel
theorem dL_budget_10 : decode cL_budget 10 = .ok (.goto 15, 3) := by decide +kernel
theorem dL_budget_13 : decode cL_budget 13 = .ok (.astore 4, 2) := by decide +kernel
theorem dL_budget_15 : decode cL_budget 15 = .ok (.iconst 1, 1) := by decide +kernel
theorem dL_budget_16 : decode cL_budget 16 = .ok (.ireturn, 1) := by decide +kernel
theorem dL_budget_17 : decode cL_budget 17 = .ok (.astore 4, 2) := by decide +kernel
theorem dL_budget_19 : decode cL_budget 19 = .ok (.iconst 2, 1) := by decide +kernel
theorem dL_budget_20 : decode cL_budget 20 = .ok (.ireturn, 1) := by decide +kernel
theorem dL_budget_21 : decode cL_budget 21 = .ok (.astore 4, 2) := by decide +kernel
theorem dL_budget_23 : decode cL_budget 23 = .ok (.iconst 3, 1) := by decide +kernel
theorem dL_budget_24 : decode cL_budget 24 = .ok (.ireturn, 1) := by decide +kernel
theorem dL_budget_25 : decode cL_budget 25 = .ok (.iconst 0, 1) := by decide +kernel
theorem dL_budget_26 : decode cL_budget 26 = .ok (.ireturn, 1) := by decide +kernel
set_option maxHeartbeats 1000000 in
set_option maxRecDepth 100000 in
theorem c_L_budget (l : Launch) (E : State) (G : kG) (S T : kSt) (o : Int64) (ad : kAd) (xc xb : Int32) (hE : kE l E G) (hS : okN S) (hL : okL S) : vx_Met l yL_budget (.codeWith yL_budget cL_budget 5 (some .int) [(0, 10, 13, 21), (0, 10, 17, 13), (0, 10, 21, 15)] :: wsL_law) ({ frames := 16, cells := 20, slots := 400, locals := 460 } : Room) (va_Pc [.ref (ad 0 0), .int xc, .int xb, .ref (ad 18 0)] (kPre E G ad (cto G S T o ad))) (kQi E G (fun r ad1 ct1 => kLP G S T o ad (cBudget S xc xb) (S.1 3 (cl xc) + xb) (fun S1 => S1 = oBudget S xc xb) r ad1 ct1)) (kXC E G (fun _ _ _ => False)) 20 400 (kB E.heap.size) := by
  refine vx_ofWH (cc := cL_budget) (maxL := 5) (ret := (some .int)) (by decide) rfl ?_
  intro p e s m args below meth c s₁ B hml hv
  obtain ⟨rfl, hM, hK, hW0⟩ := hv
  have hlocks := B.notSynchronized
  have hr := B.returns
  have Z : kZ p m c cL_budget 5 s _ wsL_law RL E G := ⟨⟨B.exec, B.bytes, hml, findClass_of_methodNamed B.named, fun w h => atoms_spec (ws := .codeWith yL_budget cL_budget 5 (some .int) [(0, 10, 13, 21), (0, 10, 17, 13), (0, 10, 21, 15)] :: wsL_law) B.pre w (List.mem_cons_of_mem _ h)⟩, hM, hK⟩
  have hx := Z.1.1
  have hb := Z.1.2.1
  have X := kX.of hW0
  have hl := lv_entry ([.ref (ad 0 0), .int xc, .int xb, .ref (ad 18 0)]) (n := 5) (Nat.le_of_ble_eq_true rfl)
  rw [lg_entry_eq]
  generalize (lg_sl ([.ref (ad 0 0), .int xc, .int xb, .ref (ad 18 0)]) ++ List.replicate (5 - (lg_sl ([.ref (ad 0 0), .int xc, .int xb, .ref (ad 18 0)])).length) Slot.unset).toArray = ls at hl ⊢
  have hl : lv_has ls 5 [(0, .ref (ad 0 0)), (1, .int xc), (2, .int xb), (3, .ref (ad 18 0))] := hl
  have htab := vx_table (x := yL_budget) B (atoms_spec (ws := .codeWith yL_budget cL_budget 5 (some .int) [(0, 10, 13, 21), (0, 10, 17, 13), (0, 10, 21, 15)] :: wsL_law) B.pre _ List.mem_cons_self)
  refine lv_aload_n hx hb dL_budget_0 rfl (lv_at hl 3 rfl) ?_
  refine lv_iconst (v := 0) hx hb dL_budget_1 (by decide) ?_
  refine lv_aload_n hx hb dL_budget_2 rfl (lv_at hl 0 rfl) ?_
  refine lv_iload_n hx hb dL_budget_3 rfl (lv_at hl 1 rfl) ?_
  refine lv_iload_n hx hb dL_budget_4 rfl (lv_at hl 2 rfl) ?_
  refine k_xRi X (k_xrunV (As := [.int xc, .int xb]) (rest := [.int 0, .ref (ad 18 0)]) Z X (c_X7_budget l E G S T o ad xc xb hE hS hL) (k_cwV 2 Z.1.2.2.2.2 (inU_13 _ (List.mem_of_getElem? (i := 22) rfl)) (inU_13 _ (List.mem_of_getElem? (i := 23) rfl)) (inU_14 _ (List.mem_of_getElem? (i := 0) rfl)) (inU_1 _ (List.mem_of_getElem? (i := 2) rfl)) (inU_14 _ (List.mem_of_getElem? (i := 1) rfl)) rfl rfl (by decide +kernel) ⟨Nat.le_of_ble_eq_true rfl, Nat.le_of_ble_eq_true rfl⟩) (k_recv Z X ct_0 rfl) rfl hl.1 rfl (Nat.le_of_ble_eq_true rfl) dL_budget_5 ⟨(Nat.le_of_ble_eq_true rfl), (Nat.le_of_ble_eq_true rfl)⟩) (fun x ce q9 ad1 ct1 H locs hp X x1 x2 x3 => ?_) (fun r_5 ad1 ct1 H locs hp X => ?_)
  · obtain ⟨hq, ha_, hb_⟩ := hp
    rw [← ha_, hb_] at X
    rcases hq with ⟨hk, rfl⟩ | ⟨hk, rfl⟩ | ⟨hk, rfl⟩
    · refine vx_catch (own := RL) (name := "java/lang/IndexOutOfBoundsException") (E := "java/lang/IndexOutOfBoundsException") Z.1.2.2.2.1 [] ⟨0, 10, 13, 21⟩ [⟨0, 10, 17, 13⟩, ⟨0, 10, 21, 15⟩] (htab.trans rfl) (fun z hz => nomatch hz) rfl (by decide) (Z.1.2.2.2.2 _ (inU_9 _ (List.mem_of_getElem? (i := 14) rfl))) (hE.word Z.2.1 (List.mem_of_getElem? (i := 2) rfl)) x1 x2 x3 ?_
      refine lv_astore (lv' := [(4, .ref q9), (0, .ref (ad 0 0)), (1, .int xc), (2, .int xb), (3, .ref (ad 18 0))]) hx hb dL_budget_13 hl (by decide) rfl (fun ls hl => ?_)
      refine lv_iconst (v := 1) hx hb dL_budget_15 (by decide) ?_
      exact vx_ret (k_iret Z X hr hlocks rfl (Nat.le_of_ble_eq_true rfl) (Nat.le_of_ble_eq_true rfl) dL_budget_16 ⟨hk.symm, AK.rf, Or.inr ⟨by rw [hk]; decide, rfl⟩⟩)
    · refine vx_catch (own := RL) (name := "java/lang/IllegalArgumentException") (E := "java/lang/IllegalArgumentException") Z.1.2.2.2.1 [⟨0, 10, 13, 21⟩] ⟨0, 10, 17, 13⟩ [⟨0, 10, 21, 15⟩] (htab.trans rfl) (by intro z hz; simp only [List.mem_cons, List.not_mem_nil, or_false] at hz; rcases hz with rfl; exact Or.inr ⟨by decide, _, (Z.1.2.2.2.2 _ (inU_9 _ (List.mem_of_getElem? (i := 14) rfl))), hE.nc Z.2.1 (by decide)⟩) rfl (by decide) (Z.1.2.2.2.2 _ (inU_7 _ (List.mem_of_getElem? (i := 9) rfl))) (hE.word Z.2.1 (List.mem_of_getElem? (i := 0) rfl)) x1 x2 x3 ?_
      refine lv_astore (lv' := [(4, .ref q9), (0, .ref (ad 0 0)), (1, .int xc), (2, .int xb), (3, .ref (ad 18 0))]) hx hb dL_budget_17 hl (by decide) rfl (fun ls hl => ?_)
      refine lv_iconst (v := 2) hx hb dL_budget_19 (by decide) ?_
      exact vx_ret (k_iret Z X hr hlocks rfl (Nat.le_of_ble_eq_true rfl) (Nat.le_of_ble_eq_true rfl) dL_budget_20 ⟨hk.symm, AK.rf, Or.inr ⟨by rw [hk]; decide, rfl⟩⟩)
    · refine vx_catch (own := RL) (name := "java/lang/IllegalStateException") (E := "java/lang/IllegalStateException") Z.1.2.2.2.1 [⟨0, 10, 13, 21⟩, ⟨0, 10, 17, 13⟩] ⟨0, 10, 21, 15⟩ [] (htab.trans rfl) (by intro z hz; simp only [List.mem_cons, List.not_mem_nil, or_false] at hz; rcases hz with rfl | rfl <;> first | exact Or.inr ⟨by decide, _, (Z.1.2.2.2.2 _ (inU_9 _ (List.mem_of_getElem? (i := 14) rfl))), hE.nc Z.2.1 (by decide)⟩ | exact Or.inr ⟨by decide, _, (Z.1.2.2.2.2 _ (inU_7 _ (List.mem_of_getElem? (i := 9) rfl))), hE.nc Z.2.1 (by decide)⟩) rfl (by decide) (hE.word Z.2.1 (List.mem_of_getElem? (i := 13) rfl)) (hE.word Z.2.1 (List.mem_of_getElem? (i := 1) rfl)) x1 x2 x3 ?_
      refine lv_astore (lv' := [(4, .ref q9), (0, .ref (ad 0 0)), (1, .int xc), (2, .int xb), (3, .ref (ad 18 0))]) hx hb dL_budget_21 hl (by decide) rfl (fun ls hl => ?_)
      refine lv_iconst (v := 3) hx hb dL_budget_23 (by decide) ?_
      exact vx_ret (k_iret Z X hr hlocks rfl (Nat.le_of_ble_eq_true rfl) (Nat.le_of_ble_eq_true rfl) dL_budget_24 ⟨hk.symm, AK.rf, Or.inr ⟨by rw [hk]; decide, rfl⟩⟩)
  obtain ⟨⟨hk, rfl⟩, ha_, hb_⟩ := hp
  rw [← ha_, hb_] at X
  refine lv_i2l (v := (S.1 3 (cl xc) + xb).toInt64) hx hb dL_budget_8 rfl ?_
  refine k_lst Z X ct_18 (by unfold vp_in; decide) dL_budget_9 (fun H locs X => ?_)
  have X := out_st X
  refine lv_goto (tgt := 25) hx hb dL_budget_10 (by decide) ?_
  refine lv_iconst (v := 0) hx hb dL_budget_25 (by decide) ?_
  exact vx_ret (k_iret Z X hr hlocks rfl (Nat.le_of_ble_eq_true rfl) (Nat.le_of_ble_eq_true rfl) dL_budget_26 ⟨hk.symm, AK.rf, Or.inl ⟨hk, _, rfl, rfl⟩⟩)
theorem dL_post_0 : decode cL_post 0 = .ok (.aload 4, 2) := by decide +kernel
theorem dL_post_2 : decode cL_post 2 = .ok (.iconst 0, 1) := by decide +kernel
theorem dL_post_3 : decode cL_post 3 = .ok (.aload_n 0, 1) := by decide +kernel
theorem dL_post_4 : decode cL_post 4 = .ok (.iload_n 1, 1) := by decide +kernel
theorem dL_post_5 : decode cL_post 5 = .ok (.iload_n 2, 1) := by decide +kernel
theorem dL_post_6 : decode cL_post 6 = .ok (.iload_n 3, 1) := by decide +kernel
theorem dL_post_7 : decode cL_post 7 = .ok (.invokevirtual 29, 3) := by decide +kernel
theorem dL_post_10 : decode cL_post 10 = .ok (.i2l, 1) := by decide +kernel
theorem dL_post_11 : decode cL_post 11 = .ok (.lastore, 1) := by decide +kernel
theorem dL_post_12 : decode cL_post 12 = .ok (.goto 11, 3) := by decide +kernel
theorem dL_post_15 : decode cL_post 15 = .ok (.astore 5, 2) := by decide +kernel
theorem dL_post_17 : decode cL_post 17 = .ok (.iconst 1, 1) := by decide +kernel
theorem dL_post_18 : decode cL_post 18 = .ok (.ireturn, 1) := by decide +kernel
theorem dL_post_19 : decode cL_post 19 = .ok (.astore 5, 2) := by decide +kernel
theorem dL_post_21 : decode cL_post 21 = .ok (.iconst 2, 1) := by decide +kernel
theorem dL_post_22 : decode cL_post 22 = .ok (.ireturn, 1) := by decide +kernel
theorem dL_post_23 : decode cL_post 23 = .ok (.iconst 0, 1) := by decide +kernel
theorem dL_post_24 : decode cL_post 24 = .ok (.ireturn, 1) := by decide +kernel
set_option maxHeartbeats 1000000 in
set_option maxRecDepth 100000 in
theorem c_L_post (l : Launch) (E : State) (G : kG) (S T : kSt) (o : Int64) (ad : kAd) (xu xc xp : Int32) (hE : kE l E G) (hS : okN S) (hL : okL S) : vx_Met l yL_post (.codeWith yL_post cL_post 6 (some .int) [(0, 12, 15, 21), (0, 12, 19, 15)] :: wsL_law) ({ frames := 16, cells := 20, slots := 400, locals := 460 } : Room) (va_Pc [.ref (ad 0 0), .int xu, .int xc, .int xp, .ref (ad 18 0)] (kPre E G ad (cto G S T o ad))) (kQi E G (fun r ad1 ct1 => kLP G S T o ad (cPost S xu xc xp) (nI (S.2 0 1)) (fun S1 => ∃ cap : Nat, capok (S.2 0 1) cap ∧ S1 = gM S xu xc xp cap) r ad1 ct1)) (kXC E G (fun _ _ _ => False)) 20 400 (kB E.heap.size) := by
  refine vx_ofWH (cc := cL_post) (maxL := 6) (ret := (some .int)) (by decide) rfl ?_
  intro p e s m args below meth c s₁ B hml hv
  obtain ⟨rfl, hM, hK, hW0⟩ := hv
  have hlocks := B.notSynchronized
  have hr := B.returns
  have Z : kZ p m c cL_post 6 s _ wsL_law RL E G := ⟨⟨B.exec, B.bytes, hml, findClass_of_methodNamed B.named, fun w h => atoms_spec (ws := .codeWith yL_post cL_post 6 (some .int) [(0, 12, 15, 21), (0, 12, 19, 15)] :: wsL_law) B.pre w (List.mem_cons_of_mem _ h)⟩, hM, hK⟩
  have hx := Z.1.1
  have hb := Z.1.2.1
  have X := kX.of hW0
  have hl := lv_entry ([.ref (ad 0 0), .int xu, .int xc, .int xp, .ref (ad 18 0)]) (n := 6) (Nat.le_of_ble_eq_true rfl)
  rw [lg_entry_eq]
  generalize (lg_sl ([.ref (ad 0 0), .int xu, .int xc, .int xp, .ref (ad 18 0)]) ++ List.replicate (6 - (lg_sl ([.ref (ad 0 0), .int xu, .int xc, .int xp, .ref (ad 18 0)])).length) Slot.unset).toArray = ls at hl ⊢
  have hl : lv_has ls 6 [(0, .ref (ad 0 0)), (1, .int xu), (2, .int xc), (3, .int xp), (4, .ref (ad 18 0))] := hl
  have htab := vx_table (x := yL_post) B (atoms_spec (ws := .codeWith yL_post cL_post 6 (some .int) [(0, 12, 15, 21), (0, 12, 19, 15)] :: wsL_law) B.pre _ List.mem_cons_self)
  refine lv_aload hx hb dL_post_0 (lv_at hl 4 rfl) ?_
  refine lv_iconst (v := 0) hx hb dL_post_2 (by decide) ?_
  refine lv_aload_n hx hb dL_post_3 rfl (lv_at hl 0 rfl) ?_
  refine lv_iload_n hx hb dL_post_4 rfl (lv_at hl 1 rfl) ?_
  refine lv_iload_n hx hb dL_post_5 rfl (lv_at hl 2 rfl) ?_
  refine lv_iload_n hx hb dL_post_6 rfl (lv_at hl 3 rfl) ?_
  refine k_xRi X (k_xrunV (As := [.int xu, .int xc, .int xp]) (rest := [.int 0, .ref (ad 18 0)]) Z X (c_X7_post l E G S T o ad xu xc xp hE hS hL) (k_cwV 3 Z.1.2.2.2.2 (inU_14 _ (List.mem_of_getElem? (i := 21) rfl)) (inU_14 _ (List.mem_of_getElem? (i := 22) rfl)) (inU_14 _ (List.mem_of_getElem? (i := 23) rfl)) (inU_1 _ (List.mem_of_getElem? (i := 2) rfl)) (inU_15 _ (List.mem_of_getElem? (i := 0) rfl)) rfl rfl (by decide +kernel) ⟨Nat.le_of_ble_eq_true rfl, Nat.le_of_ble_eq_true rfl⟩) (k_recv Z X ct_0 rfl) rfl hl.1 rfl (Nat.le_of_ble_eq_true rfl) dL_post_7 ⟨(Nat.le_of_ble_eq_true rfl), (Nat.le_of_ble_eq_true rfl)⟩) (fun x ce q9 ad1 ct1 H locs hp X x1 x2 x3 => ?_) (fun r_7 ad1 ct1 H locs hp X => ?_)
  · obtain ⟨hq, ha_, hb_⟩ := hp
    rw [← ha_, hb_] at X
    rcases hq with ⟨hk, rfl⟩ | ⟨hk, rfl⟩
    · refine vx_catch (own := RL) (name := "java/lang/IndexOutOfBoundsException") (E := "java/lang/IndexOutOfBoundsException") Z.1.2.2.2.1 [] ⟨0, 12, 15, 21⟩ [⟨0, 12, 19, 15⟩] (htab.trans rfl) (fun z hz => nomatch hz) rfl (by decide) (Z.1.2.2.2.2 _ (inU_9 _ (List.mem_of_getElem? (i := 14) rfl))) (hE.word Z.2.1 (List.mem_of_getElem? (i := 2) rfl)) x1 x2 x3 ?_
      refine lv_astore (lv' := [(5, .ref q9), (0, .ref (ad 0 0)), (1, .int xu), (2, .int xc), (3, .int xp), (4, .ref (ad 18 0))]) hx hb dL_post_15 hl (by decide) rfl (fun ls hl => ?_)
      refine lv_iconst (v := 1) hx hb dL_post_17 (by decide) ?_
      exact vx_ret (k_iret Z X hr hlocks rfl (Nat.le_of_ble_eq_true rfl) (Nat.le_of_ble_eq_true rfl) dL_post_18 ⟨hk.symm, AK.rf, Or.inr ⟨by rw [hk]; decide, rfl⟩⟩)
    · refine vx_catch (own := RL) (name := "java/lang/IllegalStateException") (E := "java/lang/IllegalStateException") Z.1.2.2.2.1 [⟨0, 12, 15, 21⟩] ⟨0, 12, 19, 15⟩ [] (htab.trans rfl) (by intro z hz; simp only [List.mem_cons, List.not_mem_nil, or_false] at hz; rcases hz with rfl; exact Or.inr ⟨by decide, _, (Z.1.2.2.2.2 _ (inU_9 _ (List.mem_of_getElem? (i := 14) rfl))), hE.nc Z.2.1 (by decide)⟩) rfl (by decide) (hE.word Z.2.1 (List.mem_of_getElem? (i := 13) rfl)) (hE.word Z.2.1 (List.mem_of_getElem? (i := 1) rfl)) x1 x2 x3 ?_
      refine lv_astore (lv' := [(5, .ref q9), (0, .ref (ad 0 0)), (1, .int xu), (2, .int xc), (3, .int xp), (4, .ref (ad 18 0))]) hx hb dL_post_19 hl (by decide) rfl (fun ls hl => ?_)
      refine lv_iconst (v := 2) hx hb dL_post_21 (by decide) ?_
      exact vx_ret (k_iret Z X hr hlocks rfl (Nat.le_of_ble_eq_true rfl) (Nat.le_of_ble_eq_true rfl) dL_post_22 ⟨hk.symm, AK.rf, Or.inr ⟨by rw [hk]; decide, rfl⟩⟩)
  obtain ⟨⟨hk, rfl⟩, hAK, cap, hcap, hb_⟩ := hp
  rw [hb_] at X
  refine W.eq (congrArg (fun z => F0 m 10 ls [.int (nI (S.2 0 1)), .int 0, .ref z]) hAK.2.2.symm) ?_
  refine lv_i2l (v := (nI (S.2 0 1)).toInt64) hx hb dL_post_10 rfl ?_
  refine k_lst Z X ct_18 (by unfold vp_in; decide) dL_post_11 (fun H locs X => ?_)
  have X := out_st X
  refine lv_goto (tgt := 23) hx hb dL_post_12 (by decide) ?_
  refine lv_iconst (v := 0) hx hb dL_post_23 (by decide) ?_
  exact vx_ret (k_iret Z X hr hlocks rfl (Nat.le_of_ble_eq_true rfl) (Nat.le_of_ble_eq_true rfl) dL_post_24 ⟨hk.symm, hAK, Or.inl ⟨hk, _, ⟨cap, hcap, rfl⟩, rfl⟩⟩)
theorem dL_edit_0 : decode cL_edit 0 = .ok (.aload_n 3, 1) := by decide +kernel
theorem dL_edit_1 : decode cL_edit 1 = .ok (.iconst 0, 1) := by decide +kernel
theorem dL_edit_2 : decode cL_edit 2 = .ok (.aload_n 0, 1) := by decide +kernel
theorem dL_edit_3 : decode cL_edit 3 = .ok (.iload_n 1, 1) := by decide +kernel
theorem dL_edit_4 : decode cL_edit 4 = .ok (.iload_n 2, 1) := by decide +kernel
theorem dL_edit_5 : decode cL_edit 5 = .ok (.invokevirtual 33, 3) := by decide +kernel
theorem dL_edit_8 : decode cL_edit 8 = .ok (.i2l, 1) := by decide +kernel
theorem dL_edit_9 : decode cL_edit 9 = .ok (.lastore, 1) := by decide +kernel
theorem dL_edit_10 : decode cL_edit 10 = .ok (.goto 11, 3) := by decide +kernel
theorem dL_edit_13 : decode cL_edit 13 = .ok (.astore 4, 2) := by decide +kernel
theorem dL_edit_15 : decode cL_edit 15 = .ok (.iconst 1, 1) := by decide +kernel
theorem dL_edit_16 : decode cL_edit 16 = .ok (.ireturn, 1) := by decide +kernel
theorem dL_edit_17 : decode cL_edit 17 = .ok (.astore 4, 2) := by decide +kernel
theorem dL_edit_19 : decode cL_edit 19 = .ok (.iconst 2, 1) := by decide +kernel
theorem dL_edit_20 : decode cL_edit 20 = .ok (.ireturn, 1) := by decide +kernel
theorem dL_edit_21 : decode cL_edit 21 = .ok (.iconst 0, 1) := by decide +kernel
theorem dL_edit_22 : decode cL_edit 22 = .ok (.ireturn, 1) := by decide +kernel
set_option maxHeartbeats 1000000 in
set_option maxRecDepth 100000 in
theorem c_L_edit (l : Launch) (E : State) (G : kG) (S T : kSt) (o : Int64) (ad : kAd) (xu xm : Int32) (hE : kE l E G) (hS : okN S) (hL : okL S) (hK9 : okK S) (hlog : S.2 0 4 < 512) : vx_Met l yL_edit (.codeWith yL_edit cL_edit 5 (some .int) [(0, 10, 13, 21), (0, 10, 17, 15)] :: wsL_law) ({ frames := 16, cells := 20, slots := 400, locals := 460 } : Room) (va_Pc [.ref (ad 0 0), .int xu, .int xm, .ref (ad 18 0)] (kPre E G ad (cto G S T o ad))) (kQi E G (fun r ad1 ct1 => kLP G S T o ad (cEdit S xu xm) (S.1 7 (cl xm) + 1) (fun S1 => S1 = oEditC S xm) r ad1 ct1)) (kXC E G (fun _ _ _ => False)) 20 400 (kB E.heap.size) := by
  refine vx_ofWH (cc := cL_edit) (maxL := 5) (ret := (some .int)) (by decide) rfl ?_
  intro p e s m args below meth c s₁ B hml hv
  obtain ⟨rfl, hM, hK, hW0⟩ := hv
  have hlocks := B.notSynchronized
  have hr := B.returns
  have Z : kZ p m c cL_edit 5 s _ wsL_law RL E G := ⟨⟨B.exec, B.bytes, hml, findClass_of_methodNamed B.named, fun w h => atoms_spec (ws := .codeWith yL_edit cL_edit 5 (some .int) [(0, 10, 13, 21), (0, 10, 17, 15)] :: wsL_law) B.pre w (List.mem_cons_of_mem _ h)⟩, hM, hK⟩
  have hx := Z.1.1
  have hb := Z.1.2.1
  have X := kX.of hW0
  have hl := lv_entry ([.ref (ad 0 0), .int xu, .int xm, .ref (ad 18 0)]) (n := 5) (Nat.le_of_ble_eq_true rfl)
  rw [lg_entry_eq]
  generalize (lg_sl ([.ref (ad 0 0), .int xu, .int xm, .ref (ad 18 0)]) ++ List.replicate (5 - (lg_sl ([.ref (ad 0 0), .int xu, .int xm, .ref (ad 18 0)])).length) Slot.unset).toArray = ls at hl ⊢
  have hl : lv_has ls 5 [(0, .ref (ad 0 0)), (1, .int xu), (2, .int xm), (3, .ref (ad 18 0))] := hl
  have htab := vx_table (x := yL_edit) B (atoms_spec (ws := .codeWith yL_edit cL_edit 5 (some .int) [(0, 10, 13, 21), (0, 10, 17, 15)] :: wsL_law) B.pre _ List.mem_cons_self)
  refine lv_aload_n hx hb dL_edit_0 rfl (lv_at hl 3 rfl) ?_
  refine lv_iconst (v := 0) hx hb dL_edit_1 (by decide) ?_
  refine lv_aload_n hx hb dL_edit_2 rfl (lv_at hl 0 rfl) ?_
  refine lv_iload_n hx hb dL_edit_3 rfl (lv_at hl 1 rfl) ?_
  refine lv_iload_n hx hb dL_edit_4 rfl (lv_at hl 2 rfl) ?_
  refine k_xRi X (k_xrunV (As := [.int xu, .int xm]) (rest := [.int 0, .ref (ad 18 0)]) Z X (c_X7_edit l E G S T o ad xu xm hE hS hL hK9 hlog) (k_cwV 2 Z.1.2.2.2.2 (inU_16 _ (List.mem_of_getElem? (i := 20) rfl)) (inU_16 _ (List.mem_of_getElem? (i := 21) rfl)) (inU_16 _ (List.mem_of_getElem? (i := 22) rfl)) (inU_1 _ (List.mem_of_getElem? (i := 2) rfl)) (inU_16 _ (List.mem_of_getElem? (i := 23) rfl)) rfl rfl (by decide +kernel) ⟨Nat.le_of_ble_eq_true rfl, Nat.le_of_ble_eq_true rfl⟩) (k_recv Z X ct_0 rfl) rfl hl.1 rfl (Nat.le_of_ble_eq_true rfl) dL_edit_5 ⟨(Nat.le_of_ble_eq_true rfl), (Nat.le_of_ble_eq_true rfl)⟩) (fun x ce q9 ad1 ct1 H locs hp X x1 x2 x3 => ?_) (fun r_5 ad1 ct1 H locs hp X => ?_)
  · obtain ⟨hq, ha_, hb_⟩ := hp
    rw [← ha_, hb_] at X
    rcases hq with ⟨hk, rfl⟩ | ⟨hk, rfl⟩
    · refine vx_catch (own := RL) (name := "java/lang/IndexOutOfBoundsException") (E := "java/lang/IndexOutOfBoundsException") Z.1.2.2.2.1 [] ⟨0, 10, 13, 21⟩ [⟨0, 10, 17, 15⟩] (htab.trans rfl) (fun z hz => nomatch hz) rfl (by decide) (Z.1.2.2.2.2 _ (inU_9 _ (List.mem_of_getElem? (i := 14) rfl))) (hE.word Z.2.1 (List.mem_of_getElem? (i := 2) rfl)) x1 x2 x3 ?_
      refine lv_astore (lv' := [(4, .ref q9), (0, .ref (ad 0 0)), (1, .int xu), (2, .int xm), (3, .ref (ad 18 0))]) hx hb dL_edit_13 hl (by decide) rfl (fun ls hl => ?_)
      refine lv_iconst (v := 1) hx hb dL_edit_15 (by decide) ?_
      exact vx_ret (k_iret Z X hr hlocks rfl (Nat.le_of_ble_eq_true rfl) (Nat.le_of_ble_eq_true rfl) dL_edit_16 ⟨hk.symm, AK.rf, Or.inr ⟨by rw [hk]; decide, rfl⟩⟩)
    · refine vx_catch (own := RL) (name := "java/lang/IllegalStateException") (E := "java/lang/IllegalStateException") Z.1.2.2.2.1 [⟨0, 10, 13, 21⟩] ⟨0, 10, 17, 15⟩ [] (htab.trans rfl) (by intro z hz; simp only [List.mem_cons, List.not_mem_nil, or_false] at hz; rcases hz with rfl; exact Or.inr ⟨by decide, _, (Z.1.2.2.2.2 _ (inU_9 _ (List.mem_of_getElem? (i := 14) rfl))), hE.nc Z.2.1 (by decide)⟩) rfl (by decide) (hE.word Z.2.1 (List.mem_of_getElem? (i := 13) rfl)) (hE.word Z.2.1 (List.mem_of_getElem? (i := 1) rfl)) x1 x2 x3 ?_
      refine lv_astore (lv' := [(4, .ref q9), (0, .ref (ad 0 0)), (1, .int xu), (2, .int xm), (3, .ref (ad 18 0))]) hx hb dL_edit_17 hl (by decide) rfl (fun ls hl => ?_)
      refine lv_iconst (v := 2) hx hb dL_edit_19 (by decide) ?_
      exact vx_ret (k_iret Z X hr hlocks rfl (Nat.le_of_ble_eq_true rfl) (Nat.le_of_ble_eq_true rfl) dL_edit_20 ⟨hk.symm, AK.rf, Or.inr ⟨by rw [hk]; decide, rfl⟩⟩)
  obtain ⟨⟨hk, rfl⟩, ha_, hb_⟩ := hp
  rw [← ha_, hb_] at X
  refine lv_i2l (v := (S.1 7 (cl xm) + 1).toInt64) hx hb dL_edit_8 rfl ?_
  refine k_lst Z X ct_18 (by unfold vp_in; decide) dL_edit_9 (fun H locs X => ?_)
  have X := out_st X
  refine lv_goto (tgt := 21) hx hb dL_edit_10 (by decide) ?_
  refine lv_iconst (v := 0) hx hb dL_edit_21 (by decide) ?_
  exact vx_ret (k_iret Z X hr hlocks rfl (Nat.le_of_ble_eq_true rfl) (Nat.le_of_ble_eq_true rfl) dL_edit_22 ⟨hk.symm, AK.rf, Or.inl ⟨hk, _, rfl, rfl⟩⟩)
theorem dL_mark_0 : decode cL_mark 0 = .ok (.aload 4, 2) := by decide +kernel
theorem dL_mark_2 : decode cL_mark 2 = .ok (.iconst 0, 1) := by decide +kernel
theorem dL_mark_3 : decode cL_mark 3 = .ok (.aload_n 0, 1) := by decide +kernel
theorem dL_mark_4 : decode cL_mark 4 = .ok (.iload_n 1, 1) := by decide +kernel
theorem dL_mark_5 : decode cL_mark 5 = .ok (.iload_n 2, 1) := by decide +kernel
theorem dL_mark_6 : decode cL_mark 6 = .ok (.iload_n 3, 1) := by decide +kernel
theorem dL_mark_7 : decode cL_mark 7 = .ok (.invokevirtual 36, 3) := by decide +kernel
theorem dL_mark_10 : decode cL_mark 10 = .ok (.i2l, 1) := by decide +kernel
theorem dL_mark_11 : decode cL_mark 11 = .ok (.lastore, 1) := by decide +kernel
theorem dL_mark_12 : decode cL_mark 12 = .ok (.goto 15, 3) := by decide +kernel
theorem dL_mark_15 : decode cL_mark 15 = .ok (.astore 5, 2) := by decide +kernel
theorem dL_mark_17 : decode cL_mark 17 = .ok (.iconst 1, 1) := by decide +kernel
theorem dL_mark_18 : decode cL_mark 18 = .ok (.ireturn, 1) := by decide +kernel
theorem dL_mark_19 : decode cL_mark 19 = .ok (.astore 5, 2) := by decide +kernel
theorem dL_mark_21 : decode cL_mark 21 = .ok (.iconst 2, 1) := by decide +kernel
theorem dL_mark_22 : decode cL_mark 22 = .ok (.ireturn, 1) := by decide +kernel
theorem dL_mark_23 : decode cL_mark 23 = .ok (.astore 5, 2) := by decide +kernel
theorem dL_mark_25 : decode cL_mark 25 = .ok (.iconst 3, 1) := by decide +kernel
theorem dL_mark_26 : decode cL_mark 26 = .ok (.ireturn, 1) := by decide +kernel
theorem dL_mark_27 : decode cL_mark 27 = .ok (.iconst 0, 1) := by decide +kernel
theorem dL_mark_28 : decode cL_mark 28 = .ok (.ireturn, 1) := by decide +kernel
set_option maxHeartbeats 1000000 in
set_option maxRecDepth 100000 in
theorem c_L_mark (l : Launch) (E : State) (G : kG) (S T : kSt) (o : Int64) (ad : kAd) (xu xm xk : Int32) (hE : kE l E G) (hS : okN S) (hL : okL S) (hK9 : okK S) (hlog : S.2 0 4 < 512) : vx_Met l yL_mark (.codeWith yL_mark cL_mark 6 (some .int) [(0, 12, 15, 21), (0, 12, 19, 13), (0, 12, 23, 15)] :: wsL_law) ({ frames := 16, cells := 20, slots := 400, locals := 460 } : Room) (va_Pc [.ref (ad 0 0), .int xu, .int xm, .int xk, .ref (ad 18 0)] (kPre E G ad (cto G S T o ad))) (kQi E G (fun r ad1 ct1 => kLP G S T o ad (cMark S (kdS S) xu xm xk) (nI (cntN (oMarkC S xu xm xk) (kdS (oMarkC S xu xm xk) (cl xm)) (S.2 0 0))) (fun S1 => S1 = oMarkC S xu xm xk) r ad1 ct1)) (kXC E G (fun _ _ _ => False)) 20 400 (kB E.heap.size) := by
  refine vx_ofWH (cc := cL_mark) (maxL := 6) (ret := (some .int)) (by decide) rfl ?_
  intro p e s m args below meth c s₁ B hml hv
  obtain ⟨rfl, hM, hK, hW0⟩ := hv
  have hlocks := B.notSynchronized
  have hr := B.returns
  have Z : kZ p m c cL_mark 6 s _ wsL_law RL E G := ⟨⟨B.exec, B.bytes, hml, findClass_of_methodNamed B.named, fun w h => atoms_spec (ws := .codeWith yL_mark cL_mark 6 (some .int) [(0, 12, 15, 21), (0, 12, 19, 13), (0, 12, 23, 15)] :: wsL_law) B.pre w (List.mem_cons_of_mem _ h)⟩, hM, hK⟩
  have hx := Z.1.1
  have hb := Z.1.2.1
  have X := kX.of hW0
  have hl := lv_entry ([.ref (ad 0 0), .int xu, .int xm, .int xk, .ref (ad 18 0)]) (n := 6) (Nat.le_of_ble_eq_true rfl)
  rw [lg_entry_eq]
  generalize (lg_sl ([.ref (ad 0 0), .int xu, .int xm, .int xk, .ref (ad 18 0)]) ++ List.replicate (6 - (lg_sl ([.ref (ad 0 0), .int xu, .int xm, .int xk, .ref (ad 18 0)])).length) Slot.unset).toArray = ls at hl ⊢
  have hl : lv_has ls 6 [(0, .ref (ad 0 0)), (1, .int xu), (2, .int xm), (3, .int xk), (4, .ref (ad 18 0))] := hl
  have htab := vx_table (x := yL_mark) B (atoms_spec (ws := .codeWith yL_mark cL_mark 6 (some .int) [(0, 12, 15, 21), (0, 12, 19, 13), (0, 12, 23, 15)] :: wsL_law) B.pre _ List.mem_cons_self)
  refine lv_aload hx hb dL_mark_0 (lv_at hl 4 rfl) ?_
  refine lv_iconst (v := 0) hx hb dL_mark_2 (by decide) ?_
  refine lv_aload_n hx hb dL_mark_3 rfl (lv_at hl 0 rfl) ?_
  refine lv_iload_n hx hb dL_mark_4 rfl (lv_at hl 1 rfl) ?_
  refine lv_iload_n hx hb dL_mark_5 rfl (lv_at hl 2 rfl) ?_
  refine lv_iload_n hx hb dL_mark_6 rfl (lv_at hl 3 rfl) ?_
  refine k_xRi X (k_xrunV (As := [.int xu, .int xm, .int xk]) (rest := [.int 0, .ref (ad 18 0)]) Z X (c_X7_mark l E G S T o ad xu xm xk hE hS hL hK9 hlog) (k_cwV 3 Z.1.2.2.2.2 (inU_18 _ (List.mem_of_getElem? (i := 5) rfl)) (inU_18 _ (List.mem_of_getElem? (i := 6) rfl)) (inU_18 _ (List.mem_of_getElem? (i := 7) rfl)) (inU_1 _ (List.mem_of_getElem? (i := 2) rfl)) (inU_18 _ (List.mem_of_getElem? (i := 8) rfl)) rfl rfl (by decide +kernel) ⟨Nat.le_of_ble_eq_true rfl, Nat.le_of_ble_eq_true rfl⟩) (k_recv Z X ct_0 rfl) rfl hl.1 rfl (Nat.le_of_ble_eq_true rfl) dL_mark_7 ⟨(Nat.le_of_ble_eq_true rfl), (Nat.le_of_ble_eq_true rfl)⟩) (fun x ce q9 ad1 ct1 H locs hp X x1 x2 x3 => ?_) (fun r_7 ad1 ct1 H locs hp X => ?_)
  · obtain ⟨hq, ha_, hb_⟩ := hp
    rw [← ha_, hb_] at X
    rcases hq with ⟨hk, rfl⟩ | ⟨hk, rfl⟩ | ⟨hk, rfl⟩
    · refine vx_catch (own := RL) (name := "java/lang/IndexOutOfBoundsException") (E := "java/lang/IndexOutOfBoundsException") Z.1.2.2.2.1 [] ⟨0, 12, 15, 21⟩ [⟨0, 12, 19, 13⟩, ⟨0, 12, 23, 15⟩] (htab.trans rfl) (fun z hz => nomatch hz) rfl (by decide) (Z.1.2.2.2.2 _ (inU_9 _ (List.mem_of_getElem? (i := 14) rfl))) (hE.word Z.2.1 (List.mem_of_getElem? (i := 2) rfl)) x1 x2 x3 ?_
      refine lv_astore (lv' := [(5, .ref q9), (0, .ref (ad 0 0)), (1, .int xu), (2, .int xm), (3, .int xk), (4, .ref (ad 18 0))]) hx hb dL_mark_15 hl (by decide) rfl (fun ls hl => ?_)
      refine lv_iconst (v := 1) hx hb dL_mark_17 (by decide) ?_
      exact vx_ret (k_iret Z X hr hlocks rfl (Nat.le_of_ble_eq_true rfl) (Nat.le_of_ble_eq_true rfl) dL_mark_18 ⟨hk.symm, AK.rf, Or.inr ⟨by rw [hk]; decide, rfl⟩⟩)
    · refine vx_catch (own := RL) (name := "java/lang/IllegalArgumentException") (E := "java/lang/IllegalArgumentException") Z.1.2.2.2.1 [⟨0, 12, 15, 21⟩] ⟨0, 12, 19, 13⟩ [⟨0, 12, 23, 15⟩] (htab.trans rfl) (by intro z hz; simp only [List.mem_cons, List.not_mem_nil, or_false] at hz; rcases hz with rfl; exact Or.inr ⟨by decide, _, (Z.1.2.2.2.2 _ (inU_9 _ (List.mem_of_getElem? (i := 14) rfl))), hE.nc Z.2.1 (by decide)⟩) rfl (by decide) (Z.1.2.2.2.2 _ (inU_7 _ (List.mem_of_getElem? (i := 9) rfl))) (hE.word Z.2.1 (List.mem_of_getElem? (i := 0) rfl)) x1 x2 x3 ?_
      refine lv_astore (lv' := [(5, .ref q9), (0, .ref (ad 0 0)), (1, .int xu), (2, .int xm), (3, .int xk), (4, .ref (ad 18 0))]) hx hb dL_mark_19 hl (by decide) rfl (fun ls hl => ?_)
      refine lv_iconst (v := 2) hx hb dL_mark_21 (by decide) ?_
      exact vx_ret (k_iret Z X hr hlocks rfl (Nat.le_of_ble_eq_true rfl) (Nat.le_of_ble_eq_true rfl) dL_mark_22 ⟨hk.symm, AK.rf, Or.inr ⟨by rw [hk]; decide, rfl⟩⟩)
    · refine vx_catch (own := RL) (name := "java/lang/IllegalStateException") (E := "java/lang/IllegalStateException") Z.1.2.2.2.1 [⟨0, 12, 15, 21⟩, ⟨0, 12, 19, 13⟩] ⟨0, 12, 23, 15⟩ [] (htab.trans rfl) (by intro z hz; simp only [List.mem_cons, List.not_mem_nil, or_false] at hz; rcases hz with rfl | rfl <;> first | exact Or.inr ⟨by decide, _, (Z.1.2.2.2.2 _ (inU_9 _ (List.mem_of_getElem? (i := 14) rfl))), hE.nc Z.2.1 (by decide)⟩ | exact Or.inr ⟨by decide, _, (Z.1.2.2.2.2 _ (inU_7 _ (List.mem_of_getElem? (i := 9) rfl))), hE.nc Z.2.1 (by decide)⟩) rfl (by decide) (hE.word Z.2.1 (List.mem_of_getElem? (i := 13) rfl)) (hE.word Z.2.1 (List.mem_of_getElem? (i := 1) rfl)) x1 x2 x3 ?_
      refine lv_astore (lv' := [(5, .ref q9), (0, .ref (ad 0 0)), (1, .int xu), (2, .int xm), (3, .int xk), (4, .ref (ad 18 0))]) hx hb dL_mark_23 hl (by decide) rfl (fun ls hl => ?_)
      refine lv_iconst (v := 3) hx hb dL_mark_25 (by decide) ?_
      exact vx_ret (k_iret Z X hr hlocks rfl (Nat.le_of_ble_eq_true rfl) (Nat.le_of_ble_eq_true rfl) dL_mark_26 ⟨hk.symm, AK.rf, Or.inr ⟨by rw [hk]; decide, rfl⟩⟩)
  obtain ⟨⟨hk, rfl⟩, ha_, hb_⟩ := hp
  rw [← ha_, hb_] at X
  refine lv_i2l (v := (nI (cntN (oMarkC S xu xm xk) (kdS (oMarkC S xu xm xk) (cl xm)) (S.2 0 0))).toInt64) hx hb dL_mark_10 rfl ?_
  refine k_lst Z X ct_18 (by unfold vp_in; decide) dL_mark_11 (fun H locs X => ?_)
  have X := out_st X
  refine lv_goto (tgt := 27) hx hb dL_mark_12 (by decide) ?_
  refine lv_iconst (v := 0) hx hb dL_mark_27 (by decide) ?_
  exact vx_ret (k_iret Z X hr hlocks rfl (Nat.le_of_ble_eq_true rfl) (Nat.le_of_ble_eq_true rfl) dL_mark_28 ⟨hk.symm, AK.rf, Or.inl ⟨hk, _, rfl, rfl⟩⟩)
theorem dL_spend_0 : decode cL_spend 0 = .ok (.aload 4, 2) := by decide +kernel
theorem dL_spend_2 : decode cL_spend 2 = .ok (.iconst 0, 1) := by decide +kernel
theorem dL_spend_3 : decode cL_spend 3 = .ok (.aload_n 0, 1) := by decide +kernel
theorem dL_spend_4 : decode cL_spend 4 = .ok (.iload_n 1, 1) := by decide +kernel
theorem dL_spend_5 : decode cL_spend 5 = .ok (.iload_n 2, 1) := by decide +kernel
theorem dL_spend_6 : decode cL_spend 6 = .ok (.iload_n 3, 1) := by decide +kernel
theorem dL_spend_7 : decode cL_spend 7 = .ok (.invokevirtual 39, 3) := by decide +kernel
theorem dL_spend_10 : decode cL_spend 10 = .ok (.i2l, 1) := by decide +kernel
theorem dL_spend_11 : decode cL_spend 11 = .ok (.lastore, 1) := by decide +kernel
theorem dL_spend_12 : decode cL_spend 12 = .ok (.goto 15, 3) := by decide +kernel
theorem dL_spend_15 : decode cL_spend 15 = .ok (.astore 5, 2) := by decide +kernel
theorem dL_spend_17 : decode cL_spend 17 = .ok (.iconst 1, 1) := by decide +kernel
theorem dL_spend_18 : decode cL_spend 18 = .ok (.ireturn, 1) := by decide +kernel
theorem dL_spend_19 : decode cL_spend 19 = .ok (.astore 5, 2) := by decide +kernel
theorem dL_spend_21 : decode cL_spend 21 = .ok (.iconst 2, 1) := by decide +kernel
theorem dL_spend_22 : decode cL_spend 22 = .ok (.ireturn, 1) := by decide +kernel
theorem dL_spend_23 : decode cL_spend 23 = .ok (.astore 5, 2) := by decide +kernel
theorem dL_spend_25 : decode cL_spend 25 = .ok (.iconst 3, 1) := by decide +kernel
theorem dL_spend_26 : decode cL_spend 26 = .ok (.ireturn, 1) := by decide +kernel
theorem dL_spend_27 : decode cL_spend 27 = .ok (.iconst 0, 1) := by decide +kernel
theorem dL_spend_28 : decode cL_spend 28 = .ok (.ireturn, 1) := by decide +kernel
set_option maxHeartbeats 1000000 in
set_option maxRecDepth 100000 in
theorem c_L_spend (l : Launch) (E : State) (G : kG) (S T : kSt) (o : Int64) (ad : kAd) (xu xm xa : Int32) (hE : kE l E G) (hS : okN S) (hL : okL S) (hK9 : okK S) : vx_Met l yL_spend (.codeWith yL_spend cL_spend 6 (some .int) [(0, 12, 15, 21), (0, 12, 19, 13), (0, 12, 23, 15)] :: wsL_law) ({ frames := 16, cells := 20, slots := 400, locals := 460 } : Room) (va_Pc [.ref (ad 0 0), .int xu, .int xm, .int xa, .ref (ad 18 0)] (kPre E G ad (cto G S T o ad))) (kQi E G (fun r ad1 ct1 => kLP G S T o ad (cSpend S (kdS S) xu xm xa) (nI (S.2 0 2)) (fun S1 => ∃ cap : Nat, capok (S.2 0 2) cap ∧ S1 = gS S xm xa cap) r ad1 ct1)) (kXC E G (fun _ _ _ => False)) 20 400 (kB E.heap.size) := by
  refine vx_ofWH (cc := cL_spend) (maxL := 6) (ret := (some .int)) (by decide) rfl ?_
  intro p e s m args below meth c s₁ B hml hv
  obtain ⟨rfl, hM, hK, hW0⟩ := hv
  have hlocks := B.notSynchronized
  have hr := B.returns
  have Z : kZ p m c cL_spend 6 s _ wsL_law RL E G := ⟨⟨B.exec, B.bytes, hml, findClass_of_methodNamed B.named, fun w h => atoms_spec (ws := .codeWith yL_spend cL_spend 6 (some .int) [(0, 12, 15, 21), (0, 12, 19, 13), (0, 12, 23, 15)] :: wsL_law) B.pre w (List.mem_cons_of_mem _ h)⟩, hM, hK⟩
  have hx := Z.1.1
  have hb := Z.1.2.1
  have X := kX.of hW0
  have hl := lv_entry ([.ref (ad 0 0), .int xu, .int xm, .int xa, .ref (ad 18 0)]) (n := 6) (Nat.le_of_ble_eq_true rfl)
  rw [lg_entry_eq]
  generalize (lg_sl ([.ref (ad 0 0), .int xu, .int xm, .int xa, .ref (ad 18 0)]) ++ List.replicate (6 - (lg_sl ([.ref (ad 0 0), .int xu, .int xm, .int xa, .ref (ad 18 0)])).length) Slot.unset).toArray = ls at hl ⊢
  have hl : lv_has ls 6 [(0, .ref (ad 0 0)), (1, .int xu), (2, .int xm), (3, .int xa), (4, .ref (ad 18 0))] := hl
  have htab := vx_table (x := yL_spend) B (atoms_spec (ws := .codeWith yL_spend cL_spend 6 (some .int) [(0, 12, 15, 21), (0, 12, 19, 13), (0, 12, 23, 15)] :: wsL_law) B.pre _ List.mem_cons_self)
  refine lv_aload hx hb dL_spend_0 (lv_at hl 4 rfl) ?_
  refine lv_iconst (v := 0) hx hb dL_spend_2 (by decide) ?_
  refine lv_aload_n hx hb dL_spend_3 rfl (lv_at hl 0 rfl) ?_
  refine lv_iload_n hx hb dL_spend_4 rfl (lv_at hl 1 rfl) ?_
  refine lv_iload_n hx hb dL_spend_5 rfl (lv_at hl 2 rfl) ?_
  refine lv_iload_n hx hb dL_spend_6 rfl (lv_at hl 3 rfl) ?_
  refine k_xRi X (k_xrunV (As := [.int xu, .int xm, .int xa]) (rest := [.int 0, .ref (ad 18 0)]) Z X (c_X7_spend l E G S T o ad xu xm xa hE hS hL hK9) (k_cwV 3 Z.1.2.2.2.2 (inU_19 _ (List.mem_of_getElem? (i := 8) rfl)) (inU_19 _ (List.mem_of_getElem? (i := 9) rfl)) (inU_19 _ (List.mem_of_getElem? (i := 10) rfl)) (inU_1 _ (List.mem_of_getElem? (i := 2) rfl)) (inU_19 _ (List.mem_of_getElem? (i := 11) rfl)) rfl rfl (by decide +kernel) ⟨Nat.le_of_ble_eq_true rfl, Nat.le_of_ble_eq_true rfl⟩) (k_recv Z X ct_0 rfl) rfl hl.1 rfl (Nat.le_of_ble_eq_true rfl) dL_spend_7 ⟨(Nat.le_of_ble_eq_true rfl), (Nat.le_of_ble_eq_true rfl)⟩) (fun x ce q9 ad1 ct1 H locs hp X x1 x2 x3 => ?_) (fun r_7 ad1 ct1 H locs hp X => ?_)
  · obtain ⟨hq, ha_, hb_⟩ := hp
    rw [← ha_, hb_] at X
    rcases hq with ⟨hk, rfl⟩ | ⟨hk, rfl⟩ | ⟨hk, rfl⟩
    · refine vx_catch (own := RL) (name := "java/lang/IndexOutOfBoundsException") (E := "java/lang/IndexOutOfBoundsException") Z.1.2.2.2.1 [] ⟨0, 12, 15, 21⟩ [⟨0, 12, 19, 13⟩, ⟨0, 12, 23, 15⟩] (htab.trans rfl) (fun z hz => nomatch hz) rfl (by decide) (Z.1.2.2.2.2 _ (inU_9 _ (List.mem_of_getElem? (i := 14) rfl))) (hE.word Z.2.1 (List.mem_of_getElem? (i := 2) rfl)) x1 x2 x3 ?_
      refine lv_astore (lv' := [(5, .ref q9), (0, .ref (ad 0 0)), (1, .int xu), (2, .int xm), (3, .int xa), (4, .ref (ad 18 0))]) hx hb dL_spend_15 hl (by decide) rfl (fun ls hl => ?_)
      refine lv_iconst (v := 1) hx hb dL_spend_17 (by decide) ?_
      exact vx_ret (k_iret Z X hr hlocks rfl (Nat.le_of_ble_eq_true rfl) (Nat.le_of_ble_eq_true rfl) dL_spend_18 ⟨hk.symm, AK.rf, Or.inr ⟨by rw [hk]; decide, rfl⟩⟩)
    · refine vx_catch (own := RL) (name := "java/lang/IllegalArgumentException") (E := "java/lang/IllegalArgumentException") Z.1.2.2.2.1 [⟨0, 12, 15, 21⟩] ⟨0, 12, 19, 13⟩ [⟨0, 12, 23, 15⟩] (htab.trans rfl) (by intro z hz; simp only [List.mem_cons, List.not_mem_nil, or_false] at hz; rcases hz with rfl; exact Or.inr ⟨by decide, _, (Z.1.2.2.2.2 _ (inU_9 _ (List.mem_of_getElem? (i := 14) rfl))), hE.nc Z.2.1 (by decide)⟩) rfl (by decide) (Z.1.2.2.2.2 _ (inU_7 _ (List.mem_of_getElem? (i := 9) rfl))) (hE.word Z.2.1 (List.mem_of_getElem? (i := 0) rfl)) x1 x2 x3 ?_
      refine lv_astore (lv' := [(5, .ref q9), (0, .ref (ad 0 0)), (1, .int xu), (2, .int xm), (3, .int xa), (4, .ref (ad 18 0))]) hx hb dL_spend_19 hl (by decide) rfl (fun ls hl => ?_)
      refine lv_iconst (v := 2) hx hb dL_spend_21 (by decide) ?_
      exact vx_ret (k_iret Z X hr hlocks rfl (Nat.le_of_ble_eq_true rfl) (Nat.le_of_ble_eq_true rfl) dL_spend_22 ⟨hk.symm, AK.rf, Or.inr ⟨by rw [hk]; decide, rfl⟩⟩)
    · refine vx_catch (own := RL) (name := "java/lang/IllegalStateException") (E := "java/lang/IllegalStateException") Z.1.2.2.2.1 [⟨0, 12, 15, 21⟩, ⟨0, 12, 19, 13⟩] ⟨0, 12, 23, 15⟩ [] (htab.trans rfl) (by intro z hz; simp only [List.mem_cons, List.not_mem_nil, or_false] at hz; rcases hz with rfl | rfl <;> first | exact Or.inr ⟨by decide, _, (Z.1.2.2.2.2 _ (inU_9 _ (List.mem_of_getElem? (i := 14) rfl))), hE.nc Z.2.1 (by decide)⟩ | exact Or.inr ⟨by decide, _, (Z.1.2.2.2.2 _ (inU_7 _ (List.mem_of_getElem? (i := 9) rfl))), hE.nc Z.2.1 (by decide)⟩) rfl (by decide) (hE.word Z.2.1 (List.mem_of_getElem? (i := 13) rfl)) (hE.word Z.2.1 (List.mem_of_getElem? (i := 1) rfl)) x1 x2 x3 ?_
      refine lv_astore (lv' := [(5, .ref q9), (0, .ref (ad 0 0)), (1, .int xu), (2, .int xm), (3, .int xa), (4, .ref (ad 18 0))]) hx hb dL_spend_23 hl (by decide) rfl (fun ls hl => ?_)
      refine lv_iconst (v := 3) hx hb dL_spend_25 (by decide) ?_
      exact vx_ret (k_iret Z X hr hlocks rfl (Nat.le_of_ble_eq_true rfl) (Nat.le_of_ble_eq_true rfl) dL_spend_26 ⟨hk.symm, AK.rf, Or.inr ⟨by rw [hk]; decide, rfl⟩⟩)
  obtain ⟨⟨hk, rfl⟩, hAK, cap, hcap, hb_⟩ := hp
  rw [hb_] at X
  refine W.eq (congrArg (fun z => F0 m 10 ls [.int (nI (S.2 0 2)), .int 0, .ref z]) hAK.2.2.symm) ?_
  refine lv_i2l (v := (nI (S.2 0 2)).toInt64) hx hb dL_spend_10 rfl ?_
  refine k_lst Z X ct_18 (by unfold vp_in; decide) dL_spend_11 (fun H locs X => ?_)
  have X := out_st X
  refine lv_goto (tgt := 27) hx hb dL_spend_12 (by decide) ?_
  refine lv_iconst (v := 0) hx hb dL_spend_27 (by decide) ?_
  exact vx_ret (k_iret Z X hr hlocks rfl (Nat.le_of_ble_eq_true rfl) (Nat.le_of_ble_eq_true rfl) dL_spend_28 ⟨hk.symm, hAK, Or.inl ⟨hk, _, ⟨cap, hcap, rfl⟩, rfl⟩⟩)
theorem dL_done_0 : decode cL_done 0 = .ok (.aload_n 3, 1) := by decide +kernel
theorem dL_done_1 : decode cL_done 1 = .ok (.iconst 0, 1) := by decide +kernel
theorem dL_done_2 : decode cL_done 2 = .ok (.aload_n 0, 1) := by decide +kernel
theorem dL_done_3 : decode cL_done 3 = .ok (.iload_n 1, 1) := by decide +kernel
theorem dL_done_4 : decode cL_done 4 = .ok (.iload_n 2, 1) := by decide +kernel
theorem dL_done_5 : decode cL_done 5 = .ok (.invokevirtual 46, 3) := by decide +kernel
theorem dL_done_8 : decode cL_done 8 = .ok (.i2l, 1) := by decide +kernel
theorem dL_done_9 : decode cL_done 9 = .ok (.lastore, 1) := by decide +kernel
theorem dL_done_10 : decode cL_done 10 = .ok (.goto 11, 3) := by decide +kernel
theorem dL_done_13 : decode cL_done 13 = .ok (.astore 4, 2) := by decide +kernel
theorem dL_done_15 : decode cL_done 15 = .ok (.iconst 1, 1) := by decide +kernel
theorem dL_done_16 : decode cL_done 16 = .ok (.ireturn, 1) := by decide +kernel
theorem dL_done_17 : decode cL_done 17 = .ok (.astore 4, 2) := by decide +kernel
theorem dL_done_19 : decode cL_done 19 = .ok (.iconst 2, 1) := by decide +kernel
theorem dL_done_20 : decode cL_done 20 = .ok (.ireturn, 1) := by decide +kernel
theorem dL_done_21 : decode cL_done 21 = .ok (.iconst 0, 1) := by decide +kernel
theorem dL_done_22 : decode cL_done 22 = .ok (.ireturn, 1) := by decide +kernel
set_option maxHeartbeats 1000000 in
set_option maxRecDepth 100000 in
theorem c_L_done (l : Launch) (E : State) (G : kG) (S T : kSt) (o : Int64) (ad : kAd) (xu xt : Int32) (hE : kE l E G) (hS : okN S) (hL : okL S) : vx_Met l yL_done (.codeWith yL_done cL_done 5 (some .int) [(0, 10, 13, 21), (0, 10, 17, 15)] :: wsL_law) ({ frames := 16, cells := 20, slots := 400, locals := 460 } : Room) (va_Pc [.ref (ad 0 0), .int xu, .int xt, .ref (ad 18 0)] (kPre E G ad (cto G S T o ad))) (kQi E G (fun r ad1 ct1 => kLP G S T o ad (cDone S xu xt) (S.1 13 (cl xt) - S.1 0 0) (fun S1 => S1 = oDone S xt) r ad1 ct1)) (kXC E G (fun _ _ _ => False)) 20 400 (kB E.heap.size) := by
  refine vx_ofWH (cc := cL_done) (maxL := 5) (ret := (some .int)) (by decide) rfl ?_
  intro p e s m args below meth c s₁ B hml hv
  obtain ⟨rfl, hM, hK, hW0⟩ := hv
  have hlocks := B.notSynchronized
  have hr := B.returns
  have Z : kZ p m c cL_done 5 s _ wsL_law RL E G := ⟨⟨B.exec, B.bytes, hml, findClass_of_methodNamed B.named, fun w h => atoms_spec (ws := .codeWith yL_done cL_done 5 (some .int) [(0, 10, 13, 21), (0, 10, 17, 15)] :: wsL_law) B.pre w (List.mem_cons_of_mem _ h)⟩, hM, hK⟩
  have hx := Z.1.1
  have hb := Z.1.2.1
  have X := kX.of hW0
  have hl := lv_entry ([.ref (ad 0 0), .int xu, .int xt, .ref (ad 18 0)]) (n := 5) (Nat.le_of_ble_eq_true rfl)
  rw [lg_entry_eq]
  generalize (lg_sl ([.ref (ad 0 0), .int xu, .int xt, .ref (ad 18 0)]) ++ List.replicate (5 - (lg_sl ([.ref (ad 0 0), .int xu, .int xt, .ref (ad 18 0)])).length) Slot.unset).toArray = ls at hl ⊢
  have hl : lv_has ls 5 [(0, .ref (ad 0 0)), (1, .int xu), (2, .int xt), (3, .ref (ad 18 0))] := hl
  have htab := vx_table (x := yL_done) B (atoms_spec (ws := .codeWith yL_done cL_done 5 (some .int) [(0, 10, 13, 21), (0, 10, 17, 15)] :: wsL_law) B.pre _ List.mem_cons_self)
  refine lv_aload_n hx hb dL_done_0 rfl (lv_at hl 3 rfl) ?_
  refine lv_iconst (v := 0) hx hb dL_done_1 (by decide) ?_
  refine lv_aload_n hx hb dL_done_2 rfl (lv_at hl 0 rfl) ?_
  refine lv_iload_n hx hb dL_done_3 rfl (lv_at hl 1 rfl) ?_
  refine lv_iload_n hx hb dL_done_4 rfl (lv_at hl 2 rfl) ?_
  refine k_xRi X (k_xrunV (As := [.int xu, .int xt]) (rest := [.int 0, .ref (ad 18 0)]) Z X (c_X7_done l E G S T o ad xu xt hE hS hL) (k_cwV 2 Z.1.2.2.2.2 (inU_29 _ (List.mem_of_getElem? (i := 14) rfl)) (inU_29 _ (List.mem_of_getElem? (i := 15) rfl)) (inU_29 _ (List.mem_of_getElem? (i := 16) rfl)) (inU_1 _ (List.mem_of_getElem? (i := 2) rfl)) (inU_29 _ (List.mem_of_getElem? (i := 17) rfl)) rfl rfl (by decide +kernel) ⟨Nat.le_of_ble_eq_true rfl, Nat.le_of_ble_eq_true rfl⟩) (k_recv Z X ct_0 rfl) rfl hl.1 rfl (Nat.le_of_ble_eq_true rfl) dL_done_5 ⟨(Nat.le_of_ble_eq_true rfl), (Nat.le_of_ble_eq_true rfl)⟩) (fun x ce q9 ad1 ct1 H locs hp X x1 x2 x3 => ?_) (fun r_5 ad1 ct1 H locs hp X => ?_)
  · obtain ⟨hq, ha_, hb_⟩ := hp
    rw [← ha_, hb_] at X
    rcases hq with ⟨hk, rfl⟩ | ⟨hk, rfl⟩
    · refine vx_catch (own := RL) (name := "java/lang/IndexOutOfBoundsException") (E := "java/lang/IndexOutOfBoundsException") Z.1.2.2.2.1 [] ⟨0, 10, 13, 21⟩ [⟨0, 10, 17, 15⟩] (htab.trans rfl) (fun z hz => nomatch hz) rfl (by decide) (Z.1.2.2.2.2 _ (inU_9 _ (List.mem_of_getElem? (i := 14) rfl))) (hE.word Z.2.1 (List.mem_of_getElem? (i := 2) rfl)) x1 x2 x3 ?_
      refine lv_astore (lv' := [(4, .ref q9), (0, .ref (ad 0 0)), (1, .int xu), (2, .int xt), (3, .ref (ad 18 0))]) hx hb dL_done_13 hl (by decide) rfl (fun ls hl => ?_)
      refine lv_iconst (v := 1) hx hb dL_done_15 (by decide) ?_
      exact vx_ret (k_iret Z X hr hlocks rfl (Nat.le_of_ble_eq_true rfl) (Nat.le_of_ble_eq_true rfl) dL_done_16 ⟨hk.symm, AK.rf, Or.inr ⟨by rw [hk]; decide, rfl⟩⟩)
    · refine vx_catch (own := RL) (name := "java/lang/IllegalStateException") (E := "java/lang/IllegalStateException") Z.1.2.2.2.1 [⟨0, 10, 13, 21⟩] ⟨0, 10, 17, 15⟩ [] (htab.trans rfl) (by intro z hz; simp only [List.mem_cons, List.not_mem_nil, or_false] at hz; rcases hz with rfl; exact Or.inr ⟨by decide, _, (Z.1.2.2.2.2 _ (inU_9 _ (List.mem_of_getElem? (i := 14) rfl))), hE.nc Z.2.1 (by decide)⟩) rfl (by decide) (hE.word Z.2.1 (List.mem_of_getElem? (i := 13) rfl)) (hE.word Z.2.1 (List.mem_of_getElem? (i := 1) rfl)) x1 x2 x3 ?_
      refine lv_astore (lv' := [(4, .ref q9), (0, .ref (ad 0 0)), (1, .int xu), (2, .int xt), (3, .ref (ad 18 0))]) hx hb dL_done_17 hl (by decide) rfl (fun ls hl => ?_)
      refine lv_iconst (v := 2) hx hb dL_done_19 (by decide) ?_
      exact vx_ret (k_iret Z X hr hlocks rfl (Nat.le_of_ble_eq_true rfl) (Nat.le_of_ble_eq_true rfl) dL_done_20 ⟨hk.symm, AK.rf, Or.inr ⟨by rw [hk]; decide, rfl⟩⟩)
  obtain ⟨⟨hk, rfl⟩, ha_, hb_⟩ := hp
  rw [← ha_, hb_] at X
  refine lv_i2l (v := (S.1 13 (cl xt) - S.1 0 0).toInt64) hx hb dL_done_8 rfl ?_
  refine k_lst Z X ct_18 (by unfold vp_in; decide) dL_done_9 (fun H locs X => ?_)
  have X := out_st X
  refine lv_goto (tgt := 21) hx hb dL_done_10 (by decide) ?_
  refine lv_iconst (v := 0) hx hb dL_done_21 (by decide) ?_
  exact vx_ret (k_iret Z X hr hlocks rfl (Nat.le_of_ble_eq_true rfl) (Nat.le_of_ble_eq_true rfl) dL_done_22 ⟨hk.symm, AK.rf, Or.inl ⟨hk, _, rfl, rfl⟩⟩)
theorem dL_hold_0 : decode cL_hold 0 = .ok (.aload_n 2, 1) := by decide +kernel
theorem dL_hold_1 : decode cL_hold 1 = .ok (.iconst 0, 1) := by decide +kernel
theorem dL_hold_2 : decode cL_hold 2 = .ok (.aload_n 0, 1) := by decide +kernel
theorem dL_hold_3 : decode cL_hold 3 = .ok (.iload_n 1, 1) := by decide +kernel
theorem dL_hold_4 : decode cL_hold 4 = .ok (.invokevirtual 49, 3) := by decide +kernel
theorem dL_hold_7 : decode cL_hold 7 = .ok (.ifCond .eq 7, 3) := by decide +kernel
theorem dL_hold_10 : decode cL_hold 10 = .ok (.lconst 1, 1) := by decide +kernel
theorem dL_hold_11 : decode cL_hold 11 = .ok (.goto 4, 3) := by decide +kernel
theorem dL_hold_14 : decode cL_hold 14 = .ok (.lconst 0, 1) := by decide +kernel
theorem dL_hold_15 : decode cL_hold 15 = .ok (.lastore, 1) := by decide +kernel
theorem dL_hold_16 : decode cL_hold 16 = .ok (.goto 6, 3) := by decide +kernel
theorem dL_hold_19 : decode cL_hold 19 = .ok (.astore_n 3, 1) := by decide +kernel
theorem dL_hold_20 : decode cL_hold 20 = .ok (.iconst 1, 1) := by decide +kernel
theorem dL_hold_21 : decode cL_hold 21 = .ok (.ireturn, 1) := by decide +kernel
theorem dL_hold_22 : decode cL_hold 22 = .ok (.iconst 0, 1) := by decide +kernel
theorem dL_hold_23 : decode cL_hold 23 = .ok (.ireturn, 1) := by decide +kernel
set_option maxHeartbeats 1000000 in
set_option maxRecDepth 100000 in
theorem c_L_hold (l : Launch) (E : State) (G : kG) (S T : kSt) (o : Int64) (ad : kAd) (xc : Int32) (hE : kE l E G) (hS : okN S) (hL : okL S) : vx_Met l yL_hold (.codeWith yL_hold cL_hold 4 (some .int) [(0, 16, 19, 21)] :: wsL_law) ({ frames := 16, cells := 20, slots := 400, locals := 460 } : Room) (va_Pc [.ref (ad 0 0), .int xc, .ref (ad 18 0)] (kPre E G ad (cto G S T o ad))) (kQi E G (fun r ad1 ct1 => kLP G S T o ad (cHold xc) (vHold S xc) (fun S1 => S1 = oHold S xc) r ad1 ct1)) (kXC E G (fun _ _ _ => False)) 20 400 (kB E.heap.size) := by
  refine vx_ofWH (cc := cL_hold) (maxL := 4) (ret := (some .int)) (by decide) rfl ?_
  intro p e s m args below meth c s₁ B hml hv
  obtain ⟨rfl, hM, hK, hW0⟩ := hv
  have hlocks := B.notSynchronized
  have hr := B.returns
  have Z : kZ p m c cL_hold 4 s _ wsL_law RL E G := ⟨⟨B.exec, B.bytes, hml, findClass_of_methodNamed B.named, fun w h => atoms_spec (ws := .codeWith yL_hold cL_hold 4 (some .int) [(0, 16, 19, 21)] :: wsL_law) B.pre w (List.mem_cons_of_mem _ h)⟩, hM, hK⟩
  have hx := Z.1.1
  have hb := Z.1.2.1
  have X := kX.of hW0
  have hl := lv_entry ([.ref (ad 0 0), .int xc, .ref (ad 18 0)]) (n := 4) (Nat.le_of_ble_eq_true rfl)
  rw [lg_entry_eq]
  generalize (lg_sl ([.ref (ad 0 0), .int xc, .ref (ad 18 0)]) ++ List.replicate (4 - (lg_sl ([.ref (ad 0 0), .int xc, .ref (ad 18 0)])).length) Slot.unset).toArray = ls at hl ⊢
  have hl : lv_has ls 4 [(0, .ref (ad 0 0)), (1, .int xc), (2, .ref (ad 18 0))] := hl
  have htab := vx_table (x := yL_hold) B (atoms_spec (ws := .codeWith yL_hold cL_hold 4 (some .int) [(0, 16, 19, 21)] :: wsL_law) B.pre _ List.mem_cons_self)
  refine lv_aload_n hx hb dL_hold_0 rfl (lv_at hl 2 rfl) ?_
  refine lv_iconst (v := 0) hx hb dL_hold_1 (by decide) ?_
  refine lv_aload_n hx hb dL_hold_2 rfl (lv_at hl 0 rfl) ?_
  refine lv_iload_n hx hb dL_hold_3 rfl (lv_at hl 1 rfl) ?_
  refine k_xRi X (k_xrunV (As := [.int xc]) (rest := [.int 0, .ref (ad 18 0)]) Z X (c_X7_hold l E G S T o ad xc hE hS hL) (k_cwV 1 Z.1.2.2.2.2 (inU_30 _ (List.mem_of_getElem? (i := 11) rfl)) (inU_30 _ (List.mem_of_getElem? (i := 12) rfl)) (inU_30 _ (List.mem_of_getElem? (i := 13) rfl)) (inU_1 _ (List.mem_of_getElem? (i := 2) rfl)) (inU_30 _ (List.mem_of_getElem? (i := 14) rfl)) rfl rfl (by decide +kernel) ⟨Nat.le_of_ble_eq_true rfl, Nat.le_of_ble_eq_true rfl⟩) (k_recv Z X ct_0 rfl) rfl hl.1 rfl (Nat.le_of_ble_eq_true rfl) dL_hold_4 ⟨(Nat.le_of_ble_eq_true rfl), (Nat.le_of_ble_eq_true rfl)⟩) (fun x ce q9 ad1 ct1 H locs hp X x1 x2 x3 => ?_) (fun r_4 ad1 ct1 H locs hp X => ?_)
  · obtain ⟨hq, ha_, hb_⟩ := hp
    rw [← ha_, hb_] at X
    obtain ⟨hk, rfl⟩ := hq
    · refine vx_catch (own := RL) (name := "java/lang/IndexOutOfBoundsException") (E := "java/lang/IndexOutOfBoundsException") Z.1.2.2.2.1 [] ⟨0, 16, 19, 21⟩ [] (htab.trans rfl) (fun z hz => nomatch hz) rfl (by decide) (Z.1.2.2.2.2 _ (inU_9 _ (List.mem_of_getElem? (i := 14) rfl))) (hE.word Z.2.1 (List.mem_of_getElem? (i := 2) rfl)) x1 x2 x3 ?_
      refine lv_astore_n (lv' := [(3, .ref q9), (0, .ref (ad 0 0)), (1, .int xc), (2, .ref (ad 18 0))]) hx hb dL_hold_19 rfl hl (by decide) rfl (fun ls hl => ?_)
      refine lv_iconst (v := 1) hx hb dL_hold_20 (by decide) ?_
      exact vx_ret (k_iret Z X hr hlocks rfl (Nat.le_of_ble_eq_true rfl) (Nat.le_of_ble_eq_true rfl) dL_hold_21 ⟨hk.symm, AK.rf, Or.inr ⟨by rw [hk]; decide, rfl⟩⟩)
  obtain ⟨⟨hk, rfl⟩, ha_, hb_⟩ := hp
  rw [← ha_, hb_] at X
  refine lv_if_eq (tgt := 14) hx hb dL_hold_7 (by decide) (fun c_7 => ?_) (fun c_7 => ?_)
  · have c_7 : vHold S xc = bI false := by rw [c_7]; rfl
    refine lv_lconst (v := 0) hx hb dL_hold_14 (by decide) ?_
    refine k_lst Z X ct_18 (by unfold vp_in; decide) dL_hold_15 (fun H locs X => ?_)
    have X := out_st X
    rw [show (0 : Int64) = (vHold S xc).toInt64 from by rw [c_7]; rfl] at X
    refine lv_goto (tgt := 22) hx hb dL_hold_16 (by decide) ?_
    refine lv_iconst (v := 0) hx hb dL_hold_22 (by decide) ?_
    exact vx_ret (k_iret Z X hr hlocks rfl (Nat.le_of_ble_eq_true rfl) (Nat.le_of_ble_eq_true rfl) dL_hold_23 ⟨hk.symm, AK.rf, Or.inl ⟨hk, _, rfl, rfl⟩⟩)
  · have c_7 : vHold S xc = bI true := congrArg bI (bI_1 c_7)
    refine lv_lconst (v := 1) hx hb dL_hold_10 (by decide) ?_
    refine lv_goto (tgt := 15) hx hb dL_hold_11 (by decide) ?_
    refine k_lst Z X ct_18 (by unfold vp_in; decide) dL_hold_15 (fun H locs X => ?_)
    have X := out_st X
    rw [show (1 : Int64) = (vHold S xc).toInt64 from by rw [c_7]; rfl] at X
    refine lv_goto (tgt := 22) hx hb dL_hold_16 (by decide) ?_
    refine lv_iconst (v := 0) hx hb dL_hold_22 (by decide) ?_
    exact vx_ret (k_iret Z X hr hlocks rfl (Nat.le_of_ble_eq_true rfl) (Nat.le_of_ble_eq_true rfl) dL_hold_23 ⟨hk.symm, AK.rf, Or.inl ⟨hk, _, rfl, rfl⟩⟩)
theorem dL_archive_0 : decode cL_archive 0 = .ok (.aload_n 2, 1) := by decide +kernel
theorem dL_archive_1 : decode cL_archive 1 = .ok (.iconst 0, 1) := by decide +kernel
theorem dL_archive_2 : decode cL_archive 2 = .ok (.aload_n 0, 1) := by decide +kernel
theorem dL_archive_3 : decode cL_archive 3 = .ok (.iload_n 1, 1) := by decide +kernel
theorem dL_archive_4 : decode cL_archive 4 = .ok (.invokevirtual 53, 3) := by decide +kernel
theorem dL_archive_7 : decode cL_archive 7 = .ok (.i2l, 1) := by decide +kernel
theorem dL_archive_8 : decode cL_archive 8 = .ok (.lastore, 1) := by decide +kernel
theorem dL_archive_9 : decode cL_archive 9 = .ok (.goto 9, 3) := by decide +kernel
theorem dL_archive_12 : decode cL_archive 12 = .ok (.astore_n 3, 1) := by decide +kernel
theorem dL_archive_13 : decode cL_archive 13 = .ok (.iconst 1, 1) := by decide +kernel
theorem dL_archive_14 : decode cL_archive 14 = .ok (.ireturn, 1) := by decide +kernel
theorem dL_archive_15 : decode cL_archive 15 = .ok (.astore_n 3, 1) := by decide +kernel
theorem dL_archive_16 : decode cL_archive 16 = .ok (.iconst 2, 1) := by decide +kernel
theorem dL_archive_17 : decode cL_archive 17 = .ok (.ireturn, 1) := by decide +kernel
theorem dL_archive_18 : decode cL_archive 18 = .ok (.iconst 0, 1) := by decide +kernel
theorem dL_archive_19 : decode cL_archive 19 = .ok (.ireturn, 1) := by decide +kernel
set_option maxHeartbeats 1000000 in
set_option maxRecDepth 100000 in
theorem c_L_archive (l : Launch) (E : State) (G : kG) (S T : kSt) (o : Int64) (ad : kAd) (xc : Int32) (hE : kE l E G) (hS : okN S) (hL : okL S) : vx_Met l yL_archive (.codeWith yL_archive cL_archive 4 (some .int) [(0, 9, 12, 21), (0, 9, 15, 15)] :: wsL_law) ({ frames := 16, cells := 20, slots := 400, locals := 460 } : Room) (va_Pc [.ref (ad 0 0), .int xc, .ref (ad 18 0)] (kPre E G ad (cto G S T o ad))) (kQi E G (fun r ad1 ct1 => kLP G S T o ad (cArch S xc) (nI (arcN S (cl xc) (S.2 0 1))) (fun S1 => S1 = arcS S (cl xc) (S.2 0 1)) r ad1 ct1)) (kXC E G (fun _ _ _ => False)) 20 400 (kB E.heap.size) := by
  refine vx_ofWH (cc := cL_archive) (maxL := 4) (ret := (some .int)) (by decide) rfl ?_
  intro p e s m args below meth c s₁ B hml hv
  obtain ⟨rfl, hM, hK, hW0⟩ := hv
  have hlocks := B.notSynchronized
  have hr := B.returns
  have Z : kZ p m c cL_archive 4 s _ wsL_law RL E G := ⟨⟨B.exec, B.bytes, hml, findClass_of_methodNamed B.named, fun w h => atoms_spec (ws := .codeWith yL_archive cL_archive 4 (some .int) [(0, 9, 12, 21), (0, 9, 15, 15)] :: wsL_law) B.pre w (List.mem_cons_of_mem _ h)⟩, hM, hK⟩
  have hx := Z.1.1
  have hb := Z.1.2.1
  have X := kX.of hW0
  have hl := lv_entry ([.ref (ad 0 0), .int xc, .ref (ad 18 0)]) (n := 4) (Nat.le_of_ble_eq_true rfl)
  rw [lg_entry_eq]
  generalize (lg_sl ([.ref (ad 0 0), .int xc, .ref (ad 18 0)]) ++ List.replicate (4 - (lg_sl ([.ref (ad 0 0), .int xc, .ref (ad 18 0)])).length) Slot.unset).toArray = ls at hl ⊢
  have hl : lv_has ls 4 [(0, .ref (ad 0 0)), (1, .int xc), (2, .ref (ad 18 0))] := hl
  have htab := vx_table (x := yL_archive) B (atoms_spec (ws := .codeWith yL_archive cL_archive 4 (some .int) [(0, 9, 12, 21), (0, 9, 15, 15)] :: wsL_law) B.pre _ List.mem_cons_self)
  refine lv_aload_n hx hb dL_archive_0 rfl (lv_at hl 2 rfl) ?_
  refine lv_iconst (v := 0) hx hb dL_archive_1 (by decide) ?_
  refine lv_aload_n hx hb dL_archive_2 rfl (lv_at hl 0 rfl) ?_
  refine lv_iload_n hx hb dL_archive_3 rfl (lv_at hl 1 rfl) ?_
  refine k_xRi X (k_xrunV (As := [.int xc]) (rest := [.int 0, .ref (ad 18 0)]) Z X (c_X7_archive l E G S T o ad xc hE hS hL) (k_cwV 1 Z.1.2.2.2.2 (inU_30 _ (List.mem_of_getElem? (i := 23) rfl)) (inU_31 _ (List.mem_of_getElem? (i := 0) rfl)) (inU_31 _ (List.mem_of_getElem? (i := 1) rfl)) (inU_1 _ (List.mem_of_getElem? (i := 2) rfl)) (inU_31 _ (List.mem_of_getElem? (i := 2) rfl)) rfl rfl (by decide +kernel) ⟨Nat.le_of_ble_eq_true rfl, Nat.le_of_ble_eq_true rfl⟩) (k_recv Z X ct_0 rfl) rfl hl.1 rfl (Nat.le_of_ble_eq_true rfl) dL_archive_4 ⟨(Nat.le_of_ble_eq_true rfl), (Nat.le_of_ble_eq_true rfl)⟩) (fun x ce q9 ad1 ct1 H locs hp X x1 x2 x3 => ?_) (fun r_4 ad1 ct1 H locs hp X => ?_)
  · obtain ⟨hq, ha_, hb_⟩ := hp
    rw [← ha_, hb_] at X
    rcases hq with ⟨hk, rfl⟩ | ⟨hk, rfl⟩
    · refine vx_catch (own := RL) (name := "java/lang/IndexOutOfBoundsException") (E := "java/lang/IndexOutOfBoundsException") Z.1.2.2.2.1 [] ⟨0, 9, 12, 21⟩ [⟨0, 9, 15, 15⟩] (htab.trans rfl) (fun z hz => nomatch hz) rfl (by decide) (Z.1.2.2.2.2 _ (inU_9 _ (List.mem_of_getElem? (i := 14) rfl))) (hE.word Z.2.1 (List.mem_of_getElem? (i := 2) rfl)) x1 x2 x3 ?_
      refine lv_astore_n (lv' := [(3, .ref q9), (0, .ref (ad 0 0)), (1, .int xc), (2, .ref (ad 18 0))]) hx hb dL_archive_12 rfl hl (by decide) rfl (fun ls hl => ?_)
      refine lv_iconst (v := 1) hx hb dL_archive_13 (by decide) ?_
      exact vx_ret (k_iret Z X hr hlocks rfl (Nat.le_of_ble_eq_true rfl) (Nat.le_of_ble_eq_true rfl) dL_archive_14 ⟨hk.symm, AK.rf, Or.inr ⟨by rw [hk]; decide, rfl⟩⟩)
    · refine vx_catch (own := RL) (name := "java/lang/IllegalStateException") (E := "java/lang/IllegalStateException") Z.1.2.2.2.1 [⟨0, 9, 12, 21⟩] ⟨0, 9, 15, 15⟩ [] (htab.trans rfl) (by intro z hz; simp only [List.mem_cons, List.not_mem_nil, or_false] at hz; rcases hz with rfl; exact Or.inr ⟨by decide, _, (Z.1.2.2.2.2 _ (inU_9 _ (List.mem_of_getElem? (i := 14) rfl))), hE.nc Z.2.1 (by decide)⟩) rfl (by decide) (hE.word Z.2.1 (List.mem_of_getElem? (i := 13) rfl)) (hE.word Z.2.1 (List.mem_of_getElem? (i := 1) rfl)) x1 x2 x3 ?_
      refine lv_astore_n (lv' := [(3, .ref q9), (0, .ref (ad 0 0)), (1, .int xc), (2, .ref (ad 18 0))]) hx hb dL_archive_15 rfl hl (by decide) rfl (fun ls hl => ?_)
      refine lv_iconst (v := 2) hx hb dL_archive_16 (by decide) ?_
      exact vx_ret (k_iret Z X hr hlocks rfl (Nat.le_of_ble_eq_true rfl) (Nat.le_of_ble_eq_true rfl) dL_archive_17 ⟨hk.symm, AK.rf, Or.inr ⟨by rw [hk]; decide, rfl⟩⟩)
  obtain ⟨⟨hk, rfl⟩, ha_, hb_⟩ := hp
  rw [← ha_, hb_] at X
  refine lv_i2l (v := (nI (arcN S (cl xc) (S.2 0 1))).toInt64) hx hb dL_archive_7 rfl ?_
  refine k_lst Z X ct_18 (by unfold vp_in; decide) dL_archive_8 (fun H locs X => ?_)
  have X := out_st X
  refine lv_goto (tgt := 18) hx hb dL_archive_9 (by decide) ?_
  refine lv_iconst (v := 0) hx hb dL_archive_18 (by decide) ?_
  exact vx_ret (k_iret Z X hr hlocks rfl (Nat.le_of_ble_eq_true rfl) (Nat.le_of_ble_eq_true rfl) dL_archive_19 ⟨hk.symm, AK.rf, Or.inl ⟨hk, _, rfl, rfl⟩⟩)
theorem dL_pass_0 : decode cL_pass 0 = .ok (.aload_n 2, 1) := by decide +kernel
theorem dL_pass_1 : decode cL_pass 1 = .ok (.iconst 0, 1) := by decide +kernel
theorem dL_pass_2 : decode cL_pass 2 = .ok (.aload_n 0, 1) := by decide +kernel
theorem dL_pass_3 : decode cL_pass 3 = .ok (.iload_n 1, 1) := by decide +kernel
theorem dL_pass_4 : decode cL_pass 4 = .ok (.invokevirtual 56, 3) := by decide +kernel
theorem dL_pass_7 : decode cL_pass 7 = .ok (.i2l, 1) := by decide +kernel
theorem dL_pass_8 : decode cL_pass 8 = .ok (.lastore, 1) := by decide +kernel
theorem dL_pass_9 : decode cL_pass 9 = .ok (.goto 6, 3) := by decide +kernel
theorem dL_pass_12 : decode cL_pass 12 = .ok (.astore_n 3, 1) := by decide +kernel
theorem dL_pass_13 : decode cL_pass 13 = .ok (.iconst 1, 1) := by decide +kernel
theorem dL_pass_14 : decode cL_pass 14 = .ok (.ireturn, 1) := by decide +kernel
theorem dL_pass_15 : decode cL_pass 15 = .ok (.iconst 0, 1) := by decide +kernel
theorem dL_pass_16 : decode cL_pass 16 = .ok (.ireturn, 1) := by decide +kernel
set_option maxHeartbeats 1000000 in
set_option maxRecDepth 100000 in
theorem c_L_pass (l : Launch) (E : State) (G : kG) (S T : kSt) (o : Int64) (ad : kAd) (xh : Int32) (hE : kE l E G) (hS : okN S) (hL : okL S) (hK9 : okK S) : vx_Met l yL_pass (.codeWith yL_pass cL_pass 4 (some .int) [(0, 9, 12, 13)] :: wsL_law) ({ frames := 16, cells := 20, slots := 400, locals := 460 } : Room) (va_Pc [.ref (ad 0 0), .int xh, .ref (ad 18 0)] (kPre E G ad (cto G S T o ad))) (kQi E G (fun r ad1 ct1 => kLP G S T o ad (cPass xh) (S.1 0 0 + xh) (fun S1 => S1 = oPassC S xh) r ad1 ct1)) (kXC E G (fun _ _ _ => False)) 20 400 (kB E.heap.size) := by
  refine vx_ofWH (cc := cL_pass) (maxL := 4) (ret := (some .int)) (by decide) rfl ?_
  intro p e s m args below meth c s₁ B hml hv
  obtain ⟨rfl, hM, hK, hW0⟩ := hv
  have hlocks := B.notSynchronized
  have hr := B.returns
  have Z : kZ p m c cL_pass 4 s _ wsL_law RL E G := ⟨⟨B.exec, B.bytes, hml, findClass_of_methodNamed B.named, fun w h => atoms_spec (ws := .codeWith yL_pass cL_pass 4 (some .int) [(0, 9, 12, 13)] :: wsL_law) B.pre w (List.mem_cons_of_mem _ h)⟩, hM, hK⟩
  have hx := Z.1.1
  have hb := Z.1.2.1
  have X := kX.of hW0
  have hl := lv_entry ([.ref (ad 0 0), .int xh, .ref (ad 18 0)]) (n := 4) (Nat.le_of_ble_eq_true rfl)
  rw [lg_entry_eq]
  generalize (lg_sl ([.ref (ad 0 0), .int xh, .ref (ad 18 0)]) ++ List.replicate (4 - (lg_sl ([.ref (ad 0 0), .int xh, .ref (ad 18 0)])).length) Slot.unset).toArray = ls at hl ⊢
  have hl : lv_has ls 4 [(0, .ref (ad 0 0)), (1, .int xh), (2, .ref (ad 18 0))] := hl
  have htab := vx_table (x := yL_pass) B (atoms_spec (ws := .codeWith yL_pass cL_pass 4 (some .int) [(0, 9, 12, 13)] :: wsL_law) B.pre _ List.mem_cons_self)
  refine lv_aload_n hx hb dL_pass_0 rfl (lv_at hl 2 rfl) ?_
  refine lv_iconst (v := 0) hx hb dL_pass_1 (by decide) ?_
  refine lv_aload_n hx hb dL_pass_2 rfl (lv_at hl 0 rfl) ?_
  refine lv_iload_n hx hb dL_pass_3 rfl (lv_at hl 1 rfl) ?_
  refine k_xRi X (k_xrunV (As := [.int xh]) (rest := [.int 0, .ref (ad 18 0)]) Z X (c_X7_pass l E G S T o ad xh hE hS hL hK9) (k_cwV 1 Z.1.2.2.2.2 (inU_32 _ (List.mem_of_getElem? (i := 8) rfl)) (inU_32 _ (List.mem_of_getElem? (i := 9) rfl)) (inU_32 _ (List.mem_of_getElem? (i := 10) rfl)) (inU_1 _ (List.mem_of_getElem? (i := 2) rfl)) (inU_32 _ (List.mem_of_getElem? (i := 11) rfl)) rfl rfl (by decide +kernel) ⟨Nat.le_of_ble_eq_true rfl, Nat.le_of_ble_eq_true rfl⟩) (k_recv Z X ct_0 rfl) rfl hl.1 rfl (Nat.le_of_ble_eq_true rfl) dL_pass_4 ⟨(Nat.le_of_ble_eq_true rfl), (Nat.le_of_ble_eq_true rfl)⟩) (fun x ce q9 ad1 ct1 H locs hp X x1 x2 x3 => ?_) (fun r_4 ad1 ct1 H locs hp X => ?_)
  · obtain ⟨hq, ha_, hb_⟩ := hp
    rw [← ha_, hb_] at X
    obtain ⟨hk, rfl⟩ := hq
    · refine vx_catch (own := RL) (name := "java/lang/IllegalArgumentException") (E := "java/lang/IllegalArgumentException") Z.1.2.2.2.1 [] ⟨0, 9, 12, 13⟩ [] (htab.trans rfl) (fun z hz => nomatch hz) rfl (by decide) (Z.1.2.2.2.2 _ (inU_7 _ (List.mem_of_getElem? (i := 9) rfl))) (hE.word Z.2.1 (List.mem_of_getElem? (i := 0) rfl)) x1 x2 x3 ?_
      refine lv_astore_n (lv' := [(3, .ref q9), (0, .ref (ad 0 0)), (1, .int xh), (2, .ref (ad 18 0))]) hx hb dL_pass_12 rfl hl (by decide) rfl (fun ls hl => ?_)
      refine lv_iconst (v := 1) hx hb dL_pass_13 (by decide) ?_
      exact vx_ret (k_iret Z X hr hlocks rfl (Nat.le_of_ble_eq_true rfl) (Nat.le_of_ble_eq_true rfl) dL_pass_14 ⟨hk.symm, AK.rf, Or.inr ⟨by rw [hk]; decide, rfl⟩⟩)
  obtain ⟨⟨hk, rfl⟩, ha_, hb_⟩ := hp
  rw [← ha_, hb_] at X
  refine lv_i2l (v := (S.1 0 0 + xh).toInt64) hx hb dL_pass_7 rfl ?_
  refine k_lst Z X ct_18 (by unfold vp_in; decide) dL_pass_8 (fun H locs X => ?_)
  have X := out_st X
  refine lv_goto (tgt := 15) hx hb dL_pass_9 (by decide) ?_
  refine lv_iconst (v := 0) hx hb dL_pass_15 (by decide) ?_
  exact vx_ret (k_iret Z X hr hlocks rfl (Nat.le_of_ble_eq_true rfl) (Nat.le_of_ble_eq_true rfl) dL_pass_16 ⟨hk.symm, AK.rf, Or.inl ⟨hk, _, rfl, rfl⟩⟩)
theorem dL_messageOf_0 : decode cL_messageOf 0 = .ok (.aload_n 3, 1) := by decide +kernel
theorem dL_messageOf_1 : decode cL_messageOf 1 = .ok (.iconst 0, 1) := by decide +kernel
theorem dL_messageOf_2 : decode cL_messageOf 2 = .ok (.aload_n 0, 1) := by decide +kernel
theorem dL_messageOf_3 : decode cL_messageOf 3 = .ok (.iload_n 1, 1) := by decide +kernel
theorem dL_messageOf_4 : decode cL_messageOf 4 = .ok (.iload_n 2, 1) := by decide +kernel
theorem dL_messageOf_5 : decode cL_messageOf 5 = .ok (.invokevirtual 59, 3) := by decide +kernel
theorem dL_messageOf_8 : decode cL_messageOf 8 = .ok (.i2l, 1) := by decide +kernel
theorem dL_messageOf_9 : decode cL_messageOf 9 = .ok (.lastore, 1) := by decide +kernel
theorem dL_messageOf_10 : decode cL_messageOf 10 = .ok (.goto 11, 3) := by decide +kernel
theorem dL_messageOf_13 : decode cL_messageOf 13 = .ok (.astore 4, 2) := by decide +kernel
theorem dL_messageOf_15 : decode cL_messageOf 15 = .ok (.iconst 1, 1) := by decide +kernel
theorem dL_messageOf_16 : decode cL_messageOf 16 = .ok (.ireturn, 1) := by decide +kernel
theorem dL_messageOf_17 : decode cL_messageOf 17 = .ok (.astore 4, 2) := by decide +kernel
theorem dL_messageOf_19 : decode cL_messageOf 19 = .ok (.iconst 2, 1) := by decide +kernel
theorem dL_messageOf_20 : decode cL_messageOf 20 = .ok (.ireturn, 1) := by decide +kernel
theorem dL_messageOf_21 : decode cL_messageOf 21 = .ok (.iconst 0, 1) := by decide +kernel
theorem dL_messageOf_22 : decode cL_messageOf 22 = .ok (.ireturn, 1) := by decide +kernel
set_option maxHeartbeats 1000000 in
set_option maxRecDepth 100000 in
theorem c_L_messageOf (l : Launch) (E : State) (G : kG) (S T : kSt) (o : Int64) (ad : kAd) (xm xw : Int32) (hE : kE l E G) (hS : okN S) (hL : okL S) : vx_Met l yL_messageOf (.codeWith yL_messageOf cL_messageOf 5 (some .int) [(0, 10, 13, 21), (0, 10, 17, 13)] :: wsL_law) ({ frames := 16, cells := 20, slots := 400, locals := 460 } : Room) (va_Pc [.ref (ad 0 0), .int xm, .int xw, .ref (ad 18 0)] (kPre E G ad (cto G S T o ad))) (kQi E G (fun r ad1 ct1 => kLP G S T o ad (cMsgOf S xm xw) (rMsgOf S (kdS S) xm xw) (fun S1 => S1 = S) r ad1 ct1)) (kXC E G (fun _ _ _ => False)) 20 400 (kB E.heap.size) := by
  refine vx_ofWH (cc := cL_messageOf) (maxL := 5) (ret := (some .int)) (by decide) rfl ?_
  intro p e s m args below meth c s₁ B hml hv
  obtain ⟨rfl, hM, hK, hW0⟩ := hv
  have hlocks := B.notSynchronized
  have hr := B.returns
  have Z : kZ p m c cL_messageOf 5 s _ wsL_law RL E G := ⟨⟨B.exec, B.bytes, hml, findClass_of_methodNamed B.named, fun w h => atoms_spec (ws := .codeWith yL_messageOf cL_messageOf 5 (some .int) [(0, 10, 13, 21), (0, 10, 17, 13)] :: wsL_law) B.pre w (List.mem_cons_of_mem _ h)⟩, hM, hK⟩
  have hx := Z.1.1
  have hb := Z.1.2.1
  have X := kX.of hW0
  have hl := lv_entry ([.ref (ad 0 0), .int xm, .int xw, .ref (ad 18 0)]) (n := 5) (Nat.le_of_ble_eq_true rfl)
  rw [lg_entry_eq]
  generalize (lg_sl ([.ref (ad 0 0), .int xm, .int xw, .ref (ad 18 0)]) ++ List.replicate (5 - (lg_sl ([.ref (ad 0 0), .int xm, .int xw, .ref (ad 18 0)])).length) Slot.unset).toArray = ls at hl ⊢
  have hl : lv_has ls 5 [(0, .ref (ad 0 0)), (1, .int xm), (2, .int xw), (3, .ref (ad 18 0))] := hl
  have htab := vx_table (x := yL_messageOf) B (atoms_spec (ws := .codeWith yL_messageOf cL_messageOf 5 (some .int) [(0, 10, 13, 21), (0, 10, 17, 13)] :: wsL_law) B.pre _ List.mem_cons_self)
  refine lv_aload_n hx hb dL_messageOf_0 rfl (lv_at hl 3 rfl) ?_
  refine lv_iconst (v := 0) hx hb dL_messageOf_1 (by decide) ?_
  refine lv_aload_n hx hb dL_messageOf_2 rfl (lv_at hl 0 rfl) ?_
  refine lv_iload_n hx hb dL_messageOf_3 rfl (lv_at hl 1 rfl) ?_
  refine lv_iload_n hx hb dL_messageOf_4 rfl (lv_at hl 2 rfl) ?_
  refine k_xRi X (k_xrunV (As := [.int xm, .int xw]) (rest := [.int 0, .ref (ad 18 0)]) Z X (c_X7_messageOf l E G S T o ad xm xw hE hS hL) (k_cwV 2 Z.1.2.2.2.2 (inU_32 _ (List.mem_of_getElem? (i := 19) rfl)) (inU_32 _ (List.mem_of_getElem? (i := 20) rfl)) (inU_32 _ (List.mem_of_getElem? (i := 21) rfl)) (inU_1 _ (List.mem_of_getElem? (i := 2) rfl)) (inU_32 _ (List.mem_of_getElem? (i := 22) rfl)) rfl rfl (by decide +kernel) ⟨Nat.le_of_ble_eq_true rfl, Nat.le_of_ble_eq_true rfl⟩) (k_recv Z X ct_0 rfl) rfl hl.1 rfl (Nat.le_of_ble_eq_true rfl) dL_messageOf_5 ⟨(Nat.le_of_ble_eq_true rfl), (Nat.le_of_ble_eq_true rfl)⟩) (fun x ce q9 ad1 ct1 H locs hp X x1 x2 x3 => ?_) (fun r_5 ad1 ct1 H locs hp X => ?_)
  · obtain ⟨hq, ha_, hb_⟩ := hp
    rw [← ha_, hb_] at X
    rcases hq with ⟨hk, rfl⟩ | ⟨hk, rfl⟩
    · refine vx_catch (own := RL) (name := "java/lang/IndexOutOfBoundsException") (E := "java/lang/IndexOutOfBoundsException") Z.1.2.2.2.1 [] ⟨0, 10, 13, 21⟩ [⟨0, 10, 17, 13⟩] (htab.trans rfl) (fun z hz => nomatch hz) rfl (by decide) (Z.1.2.2.2.2 _ (inU_9 _ (List.mem_of_getElem? (i := 14) rfl))) (hE.word Z.2.1 (List.mem_of_getElem? (i := 2) rfl)) x1 x2 x3 ?_
      refine lv_astore (lv' := [(4, .ref q9), (0, .ref (ad 0 0)), (1, .int xm), (2, .int xw), (3, .ref (ad 18 0))]) hx hb dL_messageOf_13 hl (by decide) rfl (fun ls hl => ?_)
      refine lv_iconst (v := 1) hx hb dL_messageOf_15 (by decide) ?_
      exact vx_ret (k_iret Z X hr hlocks rfl (Nat.le_of_ble_eq_true rfl) (Nat.le_of_ble_eq_true rfl) dL_messageOf_16 ⟨hk.symm, AK.rf, Or.inr ⟨by rw [hk]; decide, rfl⟩⟩)
    · refine vx_catch (own := RL) (name := "java/lang/IllegalArgumentException") (E := "java/lang/IllegalArgumentException") Z.1.2.2.2.1 [⟨0, 10, 13, 21⟩] ⟨0, 10, 17, 13⟩ [] (htab.trans rfl) (by intro z hz; simp only [List.mem_cons, List.not_mem_nil, or_false] at hz; rcases hz with rfl; exact Or.inr ⟨by decide, _, (Z.1.2.2.2.2 _ (inU_9 _ (List.mem_of_getElem? (i := 14) rfl))), hE.nc Z.2.1 (by decide)⟩) rfl (by decide) (Z.1.2.2.2.2 _ (inU_7 _ (List.mem_of_getElem? (i := 9) rfl))) (hE.word Z.2.1 (List.mem_of_getElem? (i := 0) rfl)) x1 x2 x3 ?_
      refine lv_astore (lv' := [(4, .ref q9), (0, .ref (ad 0 0)), (1, .int xm), (2, .int xw), (3, .ref (ad 18 0))]) hx hb dL_messageOf_17 hl (by decide) rfl (fun ls hl => ?_)
      refine lv_iconst (v := 2) hx hb dL_messageOf_19 (by decide) ?_
      exact vx_ret (k_iret Z X hr hlocks rfl (Nat.le_of_ble_eq_true rfl) (Nat.le_of_ble_eq_true rfl) dL_messageOf_20 ⟨hk.symm, AK.rf, Or.inr ⟨by rw [hk]; decide, rfl⟩⟩)
  obtain ⟨⟨hk, rfl⟩, ha_, hb_⟩ := hp
  rw [← ha_, hb_] at X
  refine lv_i2l (v := (rMsgOf S (kdS S) xm xw).toInt64) hx hb dL_messageOf_8 rfl ?_
  refine k_lst Z X ct_18 (by unfold vp_in; decide) dL_messageOf_9 (fun H locs X => ?_)
  have X := out_st X
  refine lv_goto (tgt := 21) hx hb dL_messageOf_10 (by decide) ?_
  refine lv_iconst (v := 0) hx hb dL_messageOf_21 (by decide) ?_
  exact vx_ret (k_iret Z X hr hlocks rfl (Nat.le_of_ble_eq_true rfl) (Nat.le_of_ble_eq_true rfl) dL_messageOf_22 ⟨hk.symm, AK.rf, Or.inl ⟨hk, _, rfl, rfl⟩⟩)
theorem dL_isApproved_0 : decode cL_isApproved 0 = .ok (.aload 4, 2) := by decide +kernel
theorem dL_isApproved_2 : decode cL_isApproved 2 = .ok (.iconst 0, 1) := by decide +kernel
theorem dL_isApproved_3 : decode cL_isApproved 3 = .ok (.aload_n 0, 1) := by decide +kernel
theorem dL_isApproved_4 : decode cL_isApproved 4 = .ok (.iload_n 1, 1) := by decide +kernel
theorem dL_isApproved_5 : decode cL_isApproved 5 = .ok (.iload_n 2, 1) := by decide +kernel
theorem dL_isApproved_6 : decode cL_isApproved 6 = .ok (.iload_n 3, 1) := by decide +kernel
theorem dL_isApproved_7 : decode cL_isApproved 7 = .ok (.invokevirtual 62, 3) := by decide +kernel
theorem dL_isApproved_10 : decode cL_isApproved 10 = .ok (.ifCond .eq 7, 3) := by decide +kernel
theorem dL_isApproved_13 : decode cL_isApproved 13 = .ok (.lconst 1, 1) := by decide +kernel
theorem dL_isApproved_14 : decode cL_isApproved 14 = .ok (.goto 4, 3) := by decide +kernel
theorem dL_isApproved_17 : decode cL_isApproved 17 = .ok (.lconst 0, 1) := by decide +kernel
theorem dL_isApproved_18 : decode cL_isApproved 18 = .ok (.lastore, 1) := by decide +kernel
theorem dL_isApproved_19 : decode cL_isApproved 19 = .ok (.goto 11, 3) := by decide +kernel
theorem dL_isApproved_22 : decode cL_isApproved 22 = .ok (.astore 5, 2) := by decide +kernel
theorem dL_isApproved_24 : decode cL_isApproved 24 = .ok (.iconst 1, 1) := by decide +kernel
theorem dL_isApproved_25 : decode cL_isApproved 25 = .ok (.ireturn, 1) := by decide +kernel
theorem dL_isApproved_26 : decode cL_isApproved 26 = .ok (.astore 5, 2) := by decide +kernel
theorem dL_isApproved_28 : decode cL_isApproved 28 = .ok (.iconst 2, 1) := by decide +kernel
theorem dL_isApproved_29 : decode cL_isApproved 29 = .ok (.ireturn, 1) := by decide +kernel
theorem dL_isApproved_30 : decode cL_isApproved 30 = .ok (.iconst 0, 1) := by decide +kernel
theorem dL_isApproved_31 : decode cL_isApproved 31 = .ok (.ireturn, 1) := by decide +kernel
set_option maxHeartbeats 1000000 in
set_option maxRecDepth 100000 in
theorem c_L_isApproved (l : Launch) (E : State) (G : kG) (S T : kSt) (o : Int64) (ad : kAd) (xm xa xn : Int32) (hE : kE l E G) (hS : okN S) (hL : okL S) (hK9 : okK S) (hG : okLg S) (hRp : ∀ m, m < S.2 0 1 → ∀ u, u < 12 → rpl S m (S.1 18) (S.2 0 4) u = kdS S m u) : vx_Met l yL_isApproved (.codeWith yL_isApproved cL_isApproved 6 (some .int) [(0, 19, 22, 21), (0, 19, 26, 13)] :: wsL_law) ({ frames := 16, cells := 20, slots := 400, locals := 460 } : Room) (va_Pc [.ref (ad 0 0), .int xm, .int xa, .int xn, .ref (ad 18 0)] (kPre E G ad (cto G S T o ad))) (kQi E G (fun r ad1 ct1 => kLP G S T o ad (cAppr S xm xa) (bI (rAprC S xm xa xn)) (fun S1 => S1 = oAprC S xm xn) r ad1 ct1)) (kXC E G (fun _ _ _ => False)) 20 400 (kB E.heap.size) := by
  refine vx_ofWH (cc := cL_isApproved) (maxL := 6) (ret := (some .int)) (by decide) rfl ?_
  intro p e s m args below meth c s₁ B hml hv
  obtain ⟨rfl, hM, hK, hW0⟩ := hv
  have hlocks := B.notSynchronized
  have hr := B.returns
  have Z : kZ p m c cL_isApproved 6 s _ wsL_law RL E G := ⟨⟨B.exec, B.bytes, hml, findClass_of_methodNamed B.named, fun w h => atoms_spec (ws := .codeWith yL_isApproved cL_isApproved 6 (some .int) [(0, 19, 22, 21), (0, 19, 26, 13)] :: wsL_law) B.pre w (List.mem_cons_of_mem _ h)⟩, hM, hK⟩
  have hx := Z.1.1
  have hb := Z.1.2.1
  have X := kX.of hW0
  have hl := lv_entry ([.ref (ad 0 0), .int xm, .int xa, .int xn, .ref (ad 18 0)]) (n := 6) (Nat.le_of_ble_eq_true rfl)
  rw [lg_entry_eq]
  generalize (lg_sl ([.ref (ad 0 0), .int xm, .int xa, .int xn, .ref (ad 18 0)]) ++ List.replicate (6 - (lg_sl ([.ref (ad 0 0), .int xm, .int xa, .int xn, .ref (ad 18 0)])).length) Slot.unset).toArray = ls at hl ⊢
  have hl : lv_has ls 6 [(0, .ref (ad 0 0)), (1, .int xm), (2, .int xa), (3, .int xn), (4, .ref (ad 18 0))] := hl
  have htab := vx_table (x := yL_isApproved) B (atoms_spec (ws := .codeWith yL_isApproved cL_isApproved 6 (some .int) [(0, 19, 22, 21), (0, 19, 26, 13)] :: wsL_law) B.pre _ List.mem_cons_self)
  refine lv_aload hx hb dL_isApproved_0 (lv_at hl 4 rfl) ?_
  refine lv_iconst (v := 0) hx hb dL_isApproved_2 (by decide) ?_
  refine lv_aload_n hx hb dL_isApproved_3 rfl (lv_at hl 0 rfl) ?_
  refine lv_iload_n hx hb dL_isApproved_4 rfl (lv_at hl 1 rfl) ?_
  refine lv_iload_n hx hb dL_isApproved_5 rfl (lv_at hl 2 rfl) ?_
  refine lv_iload_n hx hb dL_isApproved_6 rfl (lv_at hl 3 rfl) ?_
  refine k_xRi X (k_xrunV (As := [.int xm, .int xa, .int xn]) (rest := [.int 0, .ref (ad 18 0)]) Z X (c_X7_isApproved l E G S T o ad xm xa xn hE hS hL hK9 hG hRp) (k_cwV 3 Z.1.2.2.2.2 (inU_33 _ (List.mem_of_getElem? (i := 6) rfl)) (inU_33 _ (List.mem_of_getElem? (i := 7) rfl)) (inU_33 _ (List.mem_of_getElem? (i := 8) rfl)) (inU_1 _ (List.mem_of_getElem? (i := 2) rfl)) (inU_33 _ (List.mem_of_getElem? (i := 9) rfl)) rfl rfl (by decide +kernel) ⟨Nat.le_of_ble_eq_true rfl, Nat.le_of_ble_eq_true rfl⟩) (k_recv Z X ct_0 rfl) rfl hl.1 rfl (Nat.le_of_ble_eq_true rfl) dL_isApproved_7 ⟨(Nat.le_of_ble_eq_true rfl), (Nat.le_of_ble_eq_true rfl)⟩) (fun x ce q9 ad1 ct1 H locs hp X x1 x2 x3 => ?_) (fun r_7 ad1 ct1 H locs hp X => ?_)
  · obtain ⟨hq, ha_, hb_⟩ := hp
    rw [← ha_, hb_] at X
    rcases hq with ⟨hk, rfl⟩ | ⟨hk, rfl⟩
    · refine vx_catch (own := RL) (name := "java/lang/IndexOutOfBoundsException") (E := "java/lang/IndexOutOfBoundsException") Z.1.2.2.2.1 [] ⟨0, 19, 22, 21⟩ [⟨0, 19, 26, 13⟩] (htab.trans rfl) (fun z hz => nomatch hz) rfl (by decide) (Z.1.2.2.2.2 _ (inU_9 _ (List.mem_of_getElem? (i := 14) rfl))) (hE.word Z.2.1 (List.mem_of_getElem? (i := 2) rfl)) x1 x2 x3 ?_
      refine lv_astore (lv' := [(5, .ref q9), (0, .ref (ad 0 0)), (1, .int xm), (2, .int xa), (3, .int xn), (4, .ref (ad 18 0))]) hx hb dL_isApproved_22 hl (by decide) rfl (fun ls hl => ?_)
      refine lv_iconst (v := 1) hx hb dL_isApproved_24 (by decide) ?_
      exact vx_ret (k_iret Z X hr hlocks rfl (Nat.le_of_ble_eq_true rfl) (Nat.le_of_ble_eq_true rfl) dL_isApproved_25 ⟨hk.symm, AK.rf, Or.inr ⟨by rw [hk]; decide, rfl⟩⟩)
    · refine vx_catch (own := RL) (name := "java/lang/IllegalArgumentException") (E := "java/lang/IllegalArgumentException") Z.1.2.2.2.1 [⟨0, 19, 22, 21⟩] ⟨0, 19, 26, 13⟩ [] (htab.trans rfl) (by intro z hz; simp only [List.mem_cons, List.not_mem_nil, or_false] at hz; rcases hz with rfl; exact Or.inr ⟨by decide, _, (Z.1.2.2.2.2 _ (inU_9 _ (List.mem_of_getElem? (i := 14) rfl))), hE.nc Z.2.1 (by decide)⟩) rfl (by decide) (Z.1.2.2.2.2 _ (inU_7 _ (List.mem_of_getElem? (i := 9) rfl))) (hE.word Z.2.1 (List.mem_of_getElem? (i := 0) rfl)) x1 x2 x3 ?_
      refine lv_astore (lv' := [(5, .ref q9), (0, .ref (ad 0 0)), (1, .int xm), (2, .int xa), (3, .int xn), (4, .ref (ad 18 0))]) hx hb dL_isApproved_26 hl (by decide) rfl (fun ls hl => ?_)
      refine lv_iconst (v := 2) hx hb dL_isApproved_28 (by decide) ?_
      exact vx_ret (k_iret Z X hr hlocks rfl (Nat.le_of_ble_eq_true rfl) (Nat.le_of_ble_eq_true rfl) dL_isApproved_29 ⟨hk.symm, AK.rf, Or.inr ⟨by rw [hk]; decide, rfl⟩⟩)
  obtain ⟨⟨hk, rfl⟩, ha_, hb_⟩ := hp
  rw [← ha_, hb_] at X
  refine lv_if_eq (tgt := 17) hx hb dL_isApproved_10 (by decide) (fun c_10 => ?_) (fun c_10 => ?_)
  · have c_10 : bI (rAprC S xm xa xn) = bI false := by rw [c_10]; rfl
    refine lv_lconst (v := 0) hx hb dL_isApproved_17 (by decide) ?_
    refine k_lst Z X ct_18 (by unfold vp_in; decide) dL_isApproved_18 (fun H locs X => ?_)
    have X := out_st X
    rw [show (0 : Int64) = (bI (rAprC S xm xa xn)).toInt64 from by rw [c_10]; rfl] at X
    refine lv_goto (tgt := 30) hx hb dL_isApproved_19 (by decide) ?_
    refine lv_iconst (v := 0) hx hb dL_isApproved_30 (by decide) ?_
    exact vx_ret (k_iret Z X hr hlocks rfl (Nat.le_of_ble_eq_true rfl) (Nat.le_of_ble_eq_true rfl) dL_isApproved_31 ⟨hk.symm, AK.rf, Or.inl ⟨hk, _, rfl, rfl⟩⟩)
  · have c_10 : bI (rAprC S xm xa xn) = bI true := congrArg bI (bI_1 c_10)
    refine lv_lconst (v := 1) hx hb dL_isApproved_13 (by decide) ?_
    refine lv_goto (tgt := 18) hx hb dL_isApproved_14 (by decide) ?_
    refine k_lst Z X ct_18 (by unfold vp_in; decide) dL_isApproved_18 (fun H locs X => ?_)
    have X := out_st X
    rw [show (1 : Int64) = (bI (rAprC S xm xa xn)).toInt64 from by rw [c_10]; rfl] at X
    refine lv_goto (tgt := 30) hx hb dL_isApproved_19 (by decide) ?_
    refine lv_iconst (v := 0) hx hb dL_isApproved_30 (by decide) ?_
    exact vx_ret (k_iret Z X hr hlocks rfl (Nat.le_of_ble_eq_true rfl) (Nat.le_of_ble_eq_true rfl) dL_isApproved_31 ⟨hk.symm, AK.rf, Or.inl ⟨hk, _, rfl, rfl⟩⟩)
theorem dL_spendOf_0 : decode cL_spendOf 0 = .ok (.aload_n 3, 1) := by decide +kernel
theorem dL_spendOf_1 : decode cL_spendOf 1 = .ok (.iconst 0, 1) := by decide +kernel
theorem dL_spendOf_2 : decode cL_spendOf 2 = .ok (.aload_n 0, 1) := by decide +kernel
theorem dL_spendOf_3 : decode cL_spendOf 3 = .ok (.iload_n 1, 1) := by decide +kernel
theorem dL_spendOf_4 : decode cL_spendOf 4 = .ok (.iload_n 2, 1) := by decide +kernel
theorem dL_spendOf_5 : decode cL_spendOf 5 = .ok (.invokevirtual 66, 3) := by decide +kernel
theorem dL_spendOf_8 : decode cL_spendOf 8 = .ok (.i2l, 1) := by decide +kernel
theorem dL_spendOf_9 : decode cL_spendOf 9 = .ok (.lastore, 1) := by decide +kernel
theorem dL_spendOf_10 : decode cL_spendOf 10 = .ok (.goto 11, 3) := by decide +kernel
theorem dL_spendOf_13 : decode cL_spendOf 13 = .ok (.astore 4, 2) := by decide +kernel
theorem dL_spendOf_15 : decode cL_spendOf 15 = .ok (.iconst 1, 1) := by decide +kernel
theorem dL_spendOf_16 : decode cL_spendOf 16 = .ok (.ireturn, 1) := by decide +kernel
theorem dL_spendOf_17 : decode cL_spendOf 17 = .ok (.astore 4, 2) := by decide +kernel
theorem dL_spendOf_19 : decode cL_spendOf 19 = .ok (.iconst 2, 1) := by decide +kernel
theorem dL_spendOf_20 : decode cL_spendOf 20 = .ok (.ireturn, 1) := by decide +kernel
theorem dL_spendOf_21 : decode cL_spendOf 21 = .ok (.iconst 0, 1) := by decide +kernel
theorem dL_spendOf_22 : decode cL_spendOf 22 = .ok (.ireturn, 1) := by decide +kernel
set_option maxHeartbeats 1000000 in
set_option maxRecDepth 100000 in
theorem c_L_spendOf (l : Launch) (E : State) (G : kG) (S T : kSt) (o : Int64) (ad : kAd) (xs xw : Int32) (hE : kE l E G) (hS : okN S) (hL : okL S) : vx_Met l yL_spendOf (.codeWith yL_spendOf cL_spendOf 5 (some .int) [(0, 10, 13, 21), (0, 10, 17, 13)] :: wsL_law) ({ frames := 16, cells := 20, slots := 400, locals := 460 } : Room) (va_Pc [.ref (ad 0 0), .int xs, .int xw, .ref (ad 18 0)] (kPre E G ad (cto G S T o ad))) (kQi E G (fun r ad1 ct1 => kLP G S T o ad (cSpOf S xs xw) (rSpOf S xs xw) (fun S1 => S1 = S) r ad1 ct1)) (kXC E G (fun _ _ _ => False)) 20 400 (kB E.heap.size) := by
  refine vx_ofWH (cc := cL_spendOf) (maxL := 5) (ret := (some .int)) (by decide) rfl ?_
  intro p e s m args below meth c s₁ B hml hv
  obtain ⟨rfl, hM, hK, hW0⟩ := hv
  have hlocks := B.notSynchronized
  have hr := B.returns
  have Z : kZ p m c cL_spendOf 5 s _ wsL_law RL E G := ⟨⟨B.exec, B.bytes, hml, findClass_of_methodNamed B.named, fun w h => atoms_spec (ws := .codeWith yL_spendOf cL_spendOf 5 (some .int) [(0, 10, 13, 21), (0, 10, 17, 13)] :: wsL_law) B.pre w (List.mem_cons_of_mem _ h)⟩, hM, hK⟩
  have hx := Z.1.1
  have hb := Z.1.2.1
  have X := kX.of hW0
  have hl := lv_entry ([.ref (ad 0 0), .int xs, .int xw, .ref (ad 18 0)]) (n := 5) (Nat.le_of_ble_eq_true rfl)
  rw [lg_entry_eq]
  generalize (lg_sl ([.ref (ad 0 0), .int xs, .int xw, .ref (ad 18 0)]) ++ List.replicate (5 - (lg_sl ([.ref (ad 0 0), .int xs, .int xw, .ref (ad 18 0)])).length) Slot.unset).toArray = ls at hl ⊢
  have hl : lv_has ls 5 [(0, .ref (ad 0 0)), (1, .int xs), (2, .int xw), (3, .ref (ad 18 0))] := hl
  have htab := vx_table (x := yL_spendOf) B (atoms_spec (ws := .codeWith yL_spendOf cL_spendOf 5 (some .int) [(0, 10, 13, 21), (0, 10, 17, 13)] :: wsL_law) B.pre _ List.mem_cons_self)
  refine lv_aload_n hx hb dL_spendOf_0 rfl (lv_at hl 3 rfl) ?_
  refine lv_iconst (v := 0) hx hb dL_spendOf_1 (by decide) ?_
  refine lv_aload_n hx hb dL_spendOf_2 rfl (lv_at hl 0 rfl) ?_
  refine lv_iload_n hx hb dL_spendOf_3 rfl (lv_at hl 1 rfl) ?_
  refine lv_iload_n hx hb dL_spendOf_4 rfl (lv_at hl 2 rfl) ?_
  refine k_xRi X (k_xrunV (As := [.int xs, .int xw]) (rest := [.int 0, .ref (ad 18 0)]) Z X (c_X7_spendOf l E G S T o ad xs xw hE hS hL) (k_cwV 2 Z.1.2.2.2.2 (inU_33 _ (List.mem_of_getElem? (i := 23) rfl)) (inU_34 _ (List.mem_of_getElem? (i := 0) rfl)) (inU_34 _ (List.mem_of_getElem? (i := 1) rfl)) (inU_1 _ (List.mem_of_getElem? (i := 2) rfl)) (inU_34 _ (List.mem_of_getElem? (i := 2) rfl)) rfl rfl (by decide +kernel) ⟨Nat.le_of_ble_eq_true rfl, Nat.le_of_ble_eq_true rfl⟩) (k_recv Z X ct_0 rfl) rfl hl.1 rfl (Nat.le_of_ble_eq_true rfl) dL_spendOf_5 ⟨(Nat.le_of_ble_eq_true rfl), (Nat.le_of_ble_eq_true rfl)⟩) (fun x ce q9 ad1 ct1 H locs hp X x1 x2 x3 => ?_) (fun r_5 ad1 ct1 H locs hp X => ?_)
  · obtain ⟨hq, ha_, hb_⟩ := hp
    rw [← ha_, hb_] at X
    rcases hq with ⟨hk, rfl⟩ | ⟨hk, rfl⟩
    · refine vx_catch (own := RL) (name := "java/lang/IndexOutOfBoundsException") (E := "java/lang/IndexOutOfBoundsException") Z.1.2.2.2.1 [] ⟨0, 10, 13, 21⟩ [⟨0, 10, 17, 13⟩] (htab.trans rfl) (fun z hz => nomatch hz) rfl (by decide) (Z.1.2.2.2.2 _ (inU_9 _ (List.mem_of_getElem? (i := 14) rfl))) (hE.word Z.2.1 (List.mem_of_getElem? (i := 2) rfl)) x1 x2 x3 ?_
      refine lv_astore (lv' := [(4, .ref q9), (0, .ref (ad 0 0)), (1, .int xs), (2, .int xw), (3, .ref (ad 18 0))]) hx hb dL_spendOf_13 hl (by decide) rfl (fun ls hl => ?_)
      refine lv_iconst (v := 1) hx hb dL_spendOf_15 (by decide) ?_
      exact vx_ret (k_iret Z X hr hlocks rfl (Nat.le_of_ble_eq_true rfl) (Nat.le_of_ble_eq_true rfl) dL_spendOf_16 ⟨hk.symm, AK.rf, Or.inr ⟨by rw [hk]; decide, rfl⟩⟩)
    · refine vx_catch (own := RL) (name := "java/lang/IllegalArgumentException") (E := "java/lang/IllegalArgumentException") Z.1.2.2.2.1 [⟨0, 10, 13, 21⟩] ⟨0, 10, 17, 13⟩ [] (htab.trans rfl) (by intro z hz; simp only [List.mem_cons, List.not_mem_nil, or_false] at hz; rcases hz with rfl; exact Or.inr ⟨by decide, _, (Z.1.2.2.2.2 _ (inU_9 _ (List.mem_of_getElem? (i := 14) rfl))), hE.nc Z.2.1 (by decide)⟩) rfl (by decide) (Z.1.2.2.2.2 _ (inU_7 _ (List.mem_of_getElem? (i := 9) rfl))) (hE.word Z.2.1 (List.mem_of_getElem? (i := 0) rfl)) x1 x2 x3 ?_
      refine lv_astore (lv' := [(4, .ref q9), (0, .ref (ad 0 0)), (1, .int xs), (2, .int xw), (3, .ref (ad 18 0))]) hx hb dL_spendOf_17 hl (by decide) rfl (fun ls hl => ?_)
      refine lv_iconst (v := 2) hx hb dL_spendOf_19 (by decide) ?_
      exact vx_ret (k_iret Z X hr hlocks rfl (Nat.le_of_ble_eq_true rfl) (Nat.le_of_ble_eq_true rfl) dL_spendOf_20 ⟨hk.symm, AK.rf, Or.inr ⟨by rw [hk]; decide, rfl⟩⟩)
  obtain ⟨⟨hk, rfl⟩, ha_, hb_⟩ := hp
  rw [← ha_, hb_] at X
  refine lv_i2l (v := (rSpOf S xs xw).toInt64) hx hb dL_spendOf_8 rfl ?_
  refine k_lst Z X ct_18 (by unfold vp_in; decide) dL_spendOf_9 (fun H locs X => ?_)
  have X := out_st X
  refine lv_goto (tgt := 21) hx hb dL_spendOf_10 (by decide) ?_
  refine lv_iconst (v := 0) hx hb dL_spendOf_21 (by decide) ?_
  exact vx_ret (k_iret Z X hr hlocks rfl (Nat.le_of_ble_eq_true rfl) (Nat.le_of_ble_eq_true rfl) dL_spendOf_22 ⟨hk.symm, AK.rf, Or.inl ⟨hk, _, rfl, rfl⟩⟩)
theorem dL_left_0 : decode cL_left 0 = .ok (.aload_n 2, 1) := by decide +kernel
theorem dL_left_1 : decode cL_left 1 = .ok (.iconst 0, 1) := by decide +kernel
theorem dL_left_2 : decode cL_left 2 = .ok (.aload_n 0, 1) := by decide +kernel
theorem dL_left_3 : decode cL_left 3 = .ok (.iload_n 1, 1) := by decide +kernel
theorem dL_left_4 : decode cL_left 4 = .ok (.invokevirtual 69, 3) := by decide +kernel
theorem dL_left_7 : decode cL_left 7 = .ok (.i2l, 1) := by decide +kernel
theorem dL_left_8 : decode cL_left 8 = .ok (.lastore, 1) := by decide +kernel
theorem dL_left_9 : decode cL_left 9 = .ok (.goto 6, 3) := by decide +kernel
theorem dL_left_12 : decode cL_left 12 = .ok (.astore_n 3, 1) := by decide +kernel
theorem dL_left_13 : decode cL_left 13 = .ok (.iconst 1, 1) := by decide +kernel
theorem dL_left_14 : decode cL_left 14 = .ok (.ireturn, 1) := by decide +kernel
theorem dL_left_15 : decode cL_left 15 = .ok (.iconst 0, 1) := by decide +kernel
theorem dL_left_16 : decode cL_left 16 = .ok (.ireturn, 1) := by decide +kernel
set_option maxHeartbeats 1000000 in
set_option maxRecDepth 100000 in
theorem c_L_left (l : Launch) (E : State) (G : kG) (S T : kSt) (o : Int64) (ad : kAd) (xc : Int32) (hE : kE l E G) (hS : okN S) (hL : okL S) : vx_Met l yL_left (.codeWith yL_left cL_left 4 (some .int) [(0, 9, 12, 21)] :: wsL_law) ({ frames := 16, cells := 20, slots := 400, locals := 460 } : Room) (va_Pc [.ref (ad 0 0), .int xc, .ref (ad 18 0)] (kPre E G ad (cto G S T o ad))) (kQi E G (fun r ad1 ct1 => kLP G S T o ad (cLeft xc) (S.1 3 (cl xc)) (fun S1 => S1 = S) r ad1 ct1)) (kXC E G (fun _ _ _ => False)) 20 400 (kB E.heap.size) := by
  refine vx_ofWH (cc := cL_left) (maxL := 4) (ret := (some .int)) (by decide) rfl ?_
  intro p e s m args below meth c s₁ B hml hv
  obtain ⟨rfl, hM, hK, hW0⟩ := hv
  have hlocks := B.notSynchronized
  have hr := B.returns
  have Z : kZ p m c cL_left 4 s _ wsL_law RL E G := ⟨⟨B.exec, B.bytes, hml, findClass_of_methodNamed B.named, fun w h => atoms_spec (ws := .codeWith yL_left cL_left 4 (some .int) [(0, 9, 12, 21)] :: wsL_law) B.pre w (List.mem_cons_of_mem _ h)⟩, hM, hK⟩
  have hx := Z.1.1
  have hb := Z.1.2.1
  have X := kX.of hW0
  have hl := lv_entry ([.ref (ad 0 0), .int xc, .ref (ad 18 0)]) (n := 4) (Nat.le_of_ble_eq_true rfl)
  rw [lg_entry_eq]
  generalize (lg_sl ([.ref (ad 0 0), .int xc, .ref (ad 18 0)]) ++ List.replicate (4 - (lg_sl ([.ref (ad 0 0), .int xc, .ref (ad 18 0)])).length) Slot.unset).toArray = ls at hl ⊢
  have hl : lv_has ls 4 [(0, .ref (ad 0 0)), (1, .int xc), (2, .ref (ad 18 0))] := hl
  have htab := vx_table (x := yL_left) B (atoms_spec (ws := .codeWith yL_left cL_left 4 (some .int) [(0, 9, 12, 21)] :: wsL_law) B.pre _ List.mem_cons_self)
  refine lv_aload_n hx hb dL_left_0 rfl (lv_at hl 2 rfl) ?_
  refine lv_iconst (v := 0) hx hb dL_left_1 (by decide) ?_
  refine lv_aload_n hx hb dL_left_2 rfl (lv_at hl 0 rfl) ?_
  refine lv_iload_n hx hb dL_left_3 rfl (lv_at hl 1 rfl) ?_
  refine k_xRi X (k_xrunV (As := [.int xc]) (rest := [.int 0, .ref (ad 18 0)]) Z X (c_X7_left l E G S T o ad xc hE hS hL) (k_cwV 1 Z.1.2.2.2.2 (inU_34 _ (List.mem_of_getElem? (i := 14) rfl)) (inU_34 _ (List.mem_of_getElem? (i := 15) rfl)) (inU_34 _ (List.mem_of_getElem? (i := 16) rfl)) (inU_1 _ (List.mem_of_getElem? (i := 2) rfl)) (inU_34 _ (List.mem_of_getElem? (i := 17) rfl)) rfl rfl (by decide +kernel) ⟨Nat.le_of_ble_eq_true rfl, Nat.le_of_ble_eq_true rfl⟩) (k_recv Z X ct_0 rfl) rfl hl.1 rfl (Nat.le_of_ble_eq_true rfl) dL_left_4 ⟨(Nat.le_of_ble_eq_true rfl), (Nat.le_of_ble_eq_true rfl)⟩) (fun x ce q9 ad1 ct1 H locs hp X x1 x2 x3 => ?_) (fun r_4 ad1 ct1 H locs hp X => ?_)
  · obtain ⟨hq, ha_, hb_⟩ := hp
    rw [← ha_, hb_] at X
    obtain ⟨hk, rfl⟩ := hq
    · refine vx_catch (own := RL) (name := "java/lang/IndexOutOfBoundsException") (E := "java/lang/IndexOutOfBoundsException") Z.1.2.2.2.1 [] ⟨0, 9, 12, 21⟩ [] (htab.trans rfl) (fun z hz => nomatch hz) rfl (by decide) (Z.1.2.2.2.2 _ (inU_9 _ (List.mem_of_getElem? (i := 14) rfl))) (hE.word Z.2.1 (List.mem_of_getElem? (i := 2) rfl)) x1 x2 x3 ?_
      refine lv_astore_n (lv' := [(3, .ref q9), (0, .ref (ad 0 0)), (1, .int xc), (2, .ref (ad 18 0))]) hx hb dL_left_12 rfl hl (by decide) rfl (fun ls hl => ?_)
      refine lv_iconst (v := 1) hx hb dL_left_13 (by decide) ?_
      exact vx_ret (k_iret Z X hr hlocks rfl (Nat.le_of_ble_eq_true rfl) (Nat.le_of_ble_eq_true rfl) dL_left_14 ⟨hk.symm, AK.rf, Or.inr ⟨by rw [hk]; decide, rfl⟩⟩)
  obtain ⟨⟨hk, rfl⟩, ha_, hb_⟩ := hp
  rw [← ha_, hb_] at X
  refine lv_i2l (v := (S.1 3 (cl xc)).toInt64) hx hb dL_left_7 rfl ?_
  refine k_lst Z X ct_18 (by unfold vp_in; decide) dL_left_8 (fun H locs X => ?_)
  have X := out_st X
  refine lv_goto (tgt := 15) hx hb dL_left_9 (by decide) ?_
  refine lv_iconst (v := 0) hx hb dL_left_15 (by decide) ?_
  exact vx_ret (k_iret Z X hr hlocks rfl (Nat.le_of_ble_eq_true rfl) (Nat.le_of_ble_eq_true rfl) dL_left_16 ⟨hk.symm, AK.rf, Or.inl ⟨hk, _, rfl, rfl⟩⟩)
theorem dL_next_0 : decode cL_next 0 = .ok (.aload_n 3, 1) := by decide +kernel
theorem dL_next_1 : decode cL_next 1 = .ok (.iconst 0, 1) := by decide +kernel
theorem dL_next_2 : decode cL_next 2 = .ok (.aload_n 0, 1) := by decide +kernel
theorem dL_next_3 : decode cL_next 3 = .ok (.iload_n 1, 1) := by decide +kernel
theorem dL_next_4 : decode cL_next 4 = .ok (.iload_n 2, 1) := by decide +kernel
theorem dL_next_5 : decode cL_next 5 = .ok (.invokevirtual 72, 3) := by decide +kernel
theorem dL_next_8 : decode cL_next 8 = .ok (.i2l, 1) := by decide +kernel
theorem dL_next_9 : decode cL_next 9 = .ok (.lastore, 1) := by decide +kernel
theorem dL_next_10 : decode cL_next 10 = .ok (.goto 7, 3) := by decide +kernel
theorem dL_next_13 : decode cL_next 13 = .ok (.astore 4, 2) := by decide +kernel
theorem dL_next_15 : decode cL_next 15 = .ok (.iconst 1, 1) := by decide +kernel
theorem dL_next_16 : decode cL_next 16 = .ok (.ireturn, 1) := by decide +kernel
theorem dL_next_17 : decode cL_next 17 = .ok (.iconst 0, 1) := by decide +kernel
theorem dL_next_18 : decode cL_next 18 = .ok (.ireturn, 1) := by decide +kernel
set_option maxHeartbeats 1000000 in
set_option maxRecDepth 100000 in
theorem c_L_next (l : Launch) (E : State) (G : kG) (S T : kSt) (o : Int64) (ad : kAd) (xu xr : Int32) (hE : kE l E G) (hS : okN S) (hL : okL S) : vx_Met l yL_next (.codeWith yL_next cL_next 5 (some .int) [(0, 10, 13, 21)] :: wsL_law) ({ frames := 16, cells := 20, slots := 400, locals := 460 } : Room) (va_Pc [.ref (ad 0 0), .int xu, .int xr, .ref (ad 18 0)] (kPre E G ad (cto G S T o ad))) (kQi E G (fun r ad1 ct1 => kLP G S T o ad (cNext S xu xr) (nxtC S (cl xu) xr (S.2 0 3)) (fun S1 => S1 = S) r ad1 ct1)) (kXC E G (fun _ _ _ => False)) 20 400 (kB E.heap.size) := by
  refine vx_ofWH (cc := cL_next) (maxL := 5) (ret := (some .int)) (by decide) rfl ?_
  intro p e s m args below meth c s₁ B hml hv
  obtain ⟨rfl, hM, hK, hW0⟩ := hv
  have hlocks := B.notSynchronized
  have hr := B.returns
  have Z : kZ p m c cL_next 5 s _ wsL_law RL E G := ⟨⟨B.exec, B.bytes, hml, findClass_of_methodNamed B.named, fun w h => atoms_spec (ws := .codeWith yL_next cL_next 5 (some .int) [(0, 10, 13, 21)] :: wsL_law) B.pre w (List.mem_cons_of_mem _ h)⟩, hM, hK⟩
  have hx := Z.1.1
  have hb := Z.1.2.1
  have X := kX.of hW0
  have hl := lv_entry ([.ref (ad 0 0), .int xu, .int xr, .ref (ad 18 0)]) (n := 5) (Nat.le_of_ble_eq_true rfl)
  rw [lg_entry_eq]
  generalize (lg_sl ([.ref (ad 0 0), .int xu, .int xr, .ref (ad 18 0)]) ++ List.replicate (5 - (lg_sl ([.ref (ad 0 0), .int xu, .int xr, .ref (ad 18 0)])).length) Slot.unset).toArray = ls at hl ⊢
  have hl : lv_has ls 5 [(0, .ref (ad 0 0)), (1, .int xu), (2, .int xr), (3, .ref (ad 18 0))] := hl
  have htab := vx_table (x := yL_next) B (atoms_spec (ws := .codeWith yL_next cL_next 5 (some .int) [(0, 10, 13, 21)] :: wsL_law) B.pre _ List.mem_cons_self)
  refine lv_aload_n hx hb dL_next_0 rfl (lv_at hl 3 rfl) ?_
  refine lv_iconst (v := 0) hx hb dL_next_1 (by decide) ?_
  refine lv_aload_n hx hb dL_next_2 rfl (lv_at hl 0 rfl) ?_
  refine lv_iload_n hx hb dL_next_3 rfl (lv_at hl 1 rfl) ?_
  refine lv_iload_n hx hb dL_next_4 rfl (lv_at hl 2 rfl) ?_
  refine k_xRi X (k_xrunV (As := [.int xu, .int xr]) (rest := [.int 0, .ref (ad 18 0)]) Z X (c_X7_next l E G S T o ad xu xr hE hS hL) (k_cwV 2 Z.1.2.2.2.2 (inU_35 _ (List.mem_of_getElem? (i := 1) rfl)) (inU_35 _ (List.mem_of_getElem? (i := 2) rfl)) (inU_35 _ (List.mem_of_getElem? (i := 3) rfl)) (inU_1 _ (List.mem_of_getElem? (i := 2) rfl)) (inU_35 _ (List.mem_of_getElem? (i := 4) rfl)) rfl rfl (by decide +kernel) ⟨Nat.le_of_ble_eq_true rfl, Nat.le_of_ble_eq_true rfl⟩) (k_recv Z X ct_0 rfl) rfl hl.1 rfl (Nat.le_of_ble_eq_true rfl) dL_next_5 ⟨(Nat.le_of_ble_eq_true rfl), (Nat.le_of_ble_eq_true rfl)⟩) (fun x ce q9 ad1 ct1 H locs hp X x1 x2 x3 => ?_) (fun r_5 ad1 ct1 H locs hp X => ?_)
  · obtain ⟨hq, ha_, hb_⟩ := hp
    rw [← ha_, hb_] at X
    obtain ⟨hk, rfl⟩ := hq
    · refine vx_catch (own := RL) (name := "java/lang/IndexOutOfBoundsException") (E := "java/lang/IndexOutOfBoundsException") Z.1.2.2.2.1 [] ⟨0, 10, 13, 21⟩ [] (htab.trans rfl) (fun z hz => nomatch hz) rfl (by decide) (Z.1.2.2.2.2 _ (inU_9 _ (List.mem_of_getElem? (i := 14) rfl))) (hE.word Z.2.1 (List.mem_of_getElem? (i := 2) rfl)) x1 x2 x3 ?_
      refine lv_astore (lv' := [(4, .ref q9), (0, .ref (ad 0 0)), (1, .int xu), (2, .int xr), (3, .ref (ad 18 0))]) hx hb dL_next_13 hl (by decide) rfl (fun ls hl => ?_)
      refine lv_iconst (v := 1) hx hb dL_next_15 (by decide) ?_
      exact vx_ret (k_iret Z X hr hlocks rfl (Nat.le_of_ble_eq_true rfl) (Nat.le_of_ble_eq_true rfl) dL_next_16 ⟨hk.symm, AK.rf, Or.inr ⟨by rw [hk]; decide, rfl⟩⟩)
  obtain ⟨⟨hk, rfl⟩, ha_, hb_⟩ := hp
  rw [← ha_, hb_] at X
  refine lv_i2l (v := (nxtC S (cl xu) xr (S.2 0 3)).toInt64) hx hb dL_next_8 rfl ?_
  refine k_lst Z X ct_18 (by unfold vp_in; decide) dL_next_9 (fun H locs X => ?_)
  have X := out_st X
  refine lv_goto (tgt := 17) hx hb dL_next_10 (by decide) ?_
  refine lv_iconst (v := 0) hx hb dL_next_17 (by decide) ?_
  exact vx_ret (k_iret Z X hr hlocks rfl (Nat.le_of_ble_eq_true rfl) (Nat.le_of_ble_eq_true rfl) dL_next_18 ⟨hk.symm, AK.rf, Or.inl ⟨hk, _, rfl, rfl⟩⟩)
theorem dL_taskOf_0 : decode cL_taskOf 0 = .ok (.aload_n 2, 1) := by decide +kernel
theorem dL_taskOf_1 : decode cL_taskOf 1 = .ok (.iconst 0, 1) := by decide +kernel
theorem dL_taskOf_2 : decode cL_taskOf 2 = .ok (.aload_n 0, 1) := by decide +kernel
theorem dL_taskOf_3 : decode cL_taskOf 3 = .ok (.iload_n 1, 1) := by decide +kernel
theorem dL_taskOf_4 : decode cL_taskOf 4 = .ok (.invokevirtual 75, 3) := by decide +kernel
theorem dL_taskOf_7 : decode cL_taskOf 7 = .ok (.i2l, 1) := by decide +kernel
theorem dL_taskOf_8 : decode cL_taskOf 8 = .ok (.lastore, 1) := by decide +kernel
theorem dL_taskOf_9 : decode cL_taskOf 9 = .ok (.goto 6, 3) := by decide +kernel
theorem dL_taskOf_12 : decode cL_taskOf 12 = .ok (.astore_n 3, 1) := by decide +kernel
theorem dL_taskOf_13 : decode cL_taskOf 13 = .ok (.iconst 1, 1) := by decide +kernel
theorem dL_taskOf_14 : decode cL_taskOf 14 = .ok (.ireturn, 1) := by decide +kernel
theorem dL_taskOf_15 : decode cL_taskOf 15 = .ok (.iconst 0, 1) := by decide +kernel
theorem dL_taskOf_16 : decode cL_taskOf 16 = .ok (.ireturn, 1) := by decide +kernel
set_option maxHeartbeats 1000000 in
set_option maxRecDepth 100000 in
theorem c_L_taskOf (l : Launch) (E : State) (G : kG) (S T : kSt) (o : Int64) (ad : kAd) (xt : Int32) (hE : kE l E G) (hS : okN S) (hL : okL S) : vx_Met l yL_taskOf (.codeWith yL_taskOf cL_taskOf 4 (some .int) [(0, 9, 12, 21)] :: wsL_law) ({ frames := 16, cells := 20, slots := 400, locals := 460 } : Room) (va_Pc [.ref (ad 0 0), .int xt, .ref (ad 18 0)] (kPre E G ad (cto G S T o ad))) (kQi E G (fun r ad1 ct1 => kLP G S T o ad (cTaskOf S xt) (S.1 14 (cl xt)) (fun S1 => S1 = S) r ad1 ct1)) (kXC E G (fun _ _ _ => False)) 20 400 (kB E.heap.size) := by
  refine vx_ofWH (cc := cL_taskOf) (maxL := 4) (ret := (some .int)) (by decide) rfl ?_
  intro p e s m args below meth c s₁ B hml hv
  obtain ⟨rfl, hM, hK, hW0⟩ := hv
  have hlocks := B.notSynchronized
  have hr := B.returns
  have Z : kZ p m c cL_taskOf 4 s _ wsL_law RL E G := ⟨⟨B.exec, B.bytes, hml, findClass_of_methodNamed B.named, fun w h => atoms_spec (ws := .codeWith yL_taskOf cL_taskOf 4 (some .int) [(0, 9, 12, 21)] :: wsL_law) B.pre w (List.mem_cons_of_mem _ h)⟩, hM, hK⟩
  have hx := Z.1.1
  have hb := Z.1.2.1
  have X := kX.of hW0
  have hl := lv_entry ([.ref (ad 0 0), .int xt, .ref (ad 18 0)]) (n := 4) (Nat.le_of_ble_eq_true rfl)
  rw [lg_entry_eq]
  generalize (lg_sl ([.ref (ad 0 0), .int xt, .ref (ad 18 0)]) ++ List.replicate (4 - (lg_sl ([.ref (ad 0 0), .int xt, .ref (ad 18 0)])).length) Slot.unset).toArray = ls at hl ⊢
  have hl : lv_has ls 4 [(0, .ref (ad 0 0)), (1, .int xt), (2, .ref (ad 18 0))] := hl
  have htab := vx_table (x := yL_taskOf) B (atoms_spec (ws := .codeWith yL_taskOf cL_taskOf 4 (some .int) [(0, 9, 12, 21)] :: wsL_law) B.pre _ List.mem_cons_self)
  refine lv_aload_n hx hb dL_taskOf_0 rfl (lv_at hl 2 rfl) ?_
  refine lv_iconst (v := 0) hx hb dL_taskOf_1 (by decide) ?_
  refine lv_aload_n hx hb dL_taskOf_2 rfl (lv_at hl 0 rfl) ?_
  refine lv_iload_n hx hb dL_taskOf_3 rfl (lv_at hl 1 rfl) ?_
  refine k_xRi X (k_xrunV (As := [.int xt]) (rest := [.int 0, .ref (ad 18 0)]) Z X (c_X7_taskOf l E G S T o ad xt hE hS hL) (k_cwV 1 Z.1.2.2.2.2 (inU_36 _ (List.mem_of_getElem? (i := 0) rfl)) (inU_36 _ (List.mem_of_getElem? (i := 1) rfl)) (inU_36 _ (List.mem_of_getElem? (i := 2) rfl)) (inU_1 _ (List.mem_of_getElem? (i := 2) rfl)) (inU_36 _ (List.mem_of_getElem? (i := 3) rfl)) rfl rfl (by decide +kernel) ⟨Nat.le_of_ble_eq_true rfl, Nat.le_of_ble_eq_true rfl⟩) (k_recv Z X ct_0 rfl) rfl hl.1 rfl (Nat.le_of_ble_eq_true rfl) dL_taskOf_4 ⟨(Nat.le_of_ble_eq_true rfl), (Nat.le_of_ble_eq_true rfl)⟩) (fun x ce q9 ad1 ct1 H locs hp X x1 x2 x3 => ?_) (fun r_4 ad1 ct1 H locs hp X => ?_)
  · obtain ⟨hq, ha_, hb_⟩ := hp
    rw [← ha_, hb_] at X
    obtain ⟨hk, rfl⟩ := hq
    · refine vx_catch (own := RL) (name := "java/lang/IndexOutOfBoundsException") (E := "java/lang/IndexOutOfBoundsException") Z.1.2.2.2.1 [] ⟨0, 9, 12, 21⟩ [] (htab.trans rfl) (fun z hz => nomatch hz) rfl (by decide) (Z.1.2.2.2.2 _ (inU_9 _ (List.mem_of_getElem? (i := 14) rfl))) (hE.word Z.2.1 (List.mem_of_getElem? (i := 2) rfl)) x1 x2 x3 ?_
      refine lv_astore_n (lv' := [(3, .ref q9), (0, .ref (ad 0 0)), (1, .int xt), (2, .ref (ad 18 0))]) hx hb dL_taskOf_12 rfl hl (by decide) rfl (fun ls hl => ?_)
      refine lv_iconst (v := 1) hx hb dL_taskOf_13 (by decide) ?_
      exact vx_ret (k_iret Z X hr hlocks rfl (Nat.le_of_ble_eq_true rfl) (Nat.le_of_ble_eq_true rfl) dL_taskOf_14 ⟨hk.symm, AK.rf, Or.inr ⟨by rw [hk]; decide, rfl⟩⟩)
  obtain ⟨⟨hk, rfl⟩, ha_, hb_⟩ := hp
  rw [← ha_, hb_] at X
  refine lv_i2l (v := (S.1 14 (cl xt)).toInt64) hx hb dL_taskOf_7 rfl ?_
  refine k_lst Z X ct_18 (by unfold vp_in; decide) dL_taskOf_8 (fun H locs X => ?_)
  have X := out_st X
  refine lv_goto (tgt := 15) hx hb dL_taskOf_9 (by decide) ?_
  refine lv_iconst (v := 0) hx hb dL_taskOf_15 (by decide) ?_
  exact vx_ret (k_iret Z X hr hlocks rfl (Nat.le_of_ble_eq_true rfl) (Nat.le_of_ble_eq_true rfl) dL_taskOf_16 ⟨hk.symm, AK.rf, Or.inl ⟨hk, _, rfl, rfl⟩⟩)
