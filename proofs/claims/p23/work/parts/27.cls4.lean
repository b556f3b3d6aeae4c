/-! THE CLASS: its calls that make nothing -/
theorem okK_sI {S : kSt} {f i : Nat} {v : Int32} (h : okK S) (hf : f < 100 := by decide) : okK (sI S f i v) := by
  intro a u h1 h2
  rw [kdS_sI hf]
  exact h a u h1 h2
theorem bI_fit {b : Bool} : fits .boolean (.int (bI b)) = true := by cases b <;> rfl
def oPassC (S : kSt) (x : Int32) : kSt := stl (sI S 0 0 (S.1 0 0 + x)) (kdS S) (S.2 0 2)
def lgE (S : kSt) (a b c : Int32) : kSt := sN (sI (sI (sI S 15 (S.2 0 4) a) 16 (S.2 0 4) b) 17 (S.2 0 4) c) 0 4 (S.2 0 4 + 1)
def oEd1 (S : kSt) (m : Int32) : kSt := sR (sI S 7 (cl m) (S.1 7 (cl m) + 1)) (100 + cl m) 0 12 (-1)
def oEdC (S : kSt) (m : Int32) : kSt := drp (lgE (oEd1 S m) m (-1) 2) (cl m) (S.2 0 3)
def oEditC (S : kSt) (m : Int32) : kSt := stl (oEdC S m) (kdS (oEdC S m)) (S.2 0 2)
def oMkC (S : kSt) (u m x : Int32) : kSt := lgE (sI S (100 + cl m) (cl u) x) m u x
def oMarkC (S : kSt) (u m x : Int32) : kSt := stl (oMkC S u m x) (kdS (oMkC S u m x)) (S.2 0 2)
theorem lgE_1 {S : kSt} {a b c : Int32} {f : Nat} (h : f < 15 ∨ 18 ≤ f) : (lgE S a b c).1 f = S.1 f := by
  show (sI (sI (sI S 15 (S.2 0 4) a) 16 (S.2 0 4) b) 17 (S.2 0 4) c).1 f = S.1 f
  rw [sI_fn (by omega), sI_fn (by omega), sI_fn (by omega)]
theorem lgE_2 {S : kSt} {a b c : Int32} {f j : Nat} (h : ¬ (f = 0 ∧ j = 4)) : (lgE S a b c).2 f j = S.2 f j := by
  simp only [lgE, sN, sI]
  rw [if_neg h]
theorem lgE_kd {S : kSt} {a b c : Int32} : kdS (lgE S a b c) = kdS S := by
  funext x u
  simp only [kdS]
  rw [lgE_1 (by omega)]
theorem okN_lg {S : kSt} {a b c : Int32} (h : okN S) : okN (lgE S a b c) := by
  simp only [okN]
  rw [lgE_2 (by decide), lgE_2 (by decide), lgE_2 (by decide), lgE_2 (by decide)]
  have e : ∀ f j, f ≠ 0 → (lgE S a b c).2 f j = S.2 f j := fun f j hf => lgE_2 (fun z => hf z.1)
  simp only [e 1 _ (by decide), e 2 _ (by decide), e 3 _ (by decide), e 4 _ (by decide), e 5 _ (by decide)]
  exact h
theorem lcnt_lg {S : kSt} {a b c : Int32} : lcnt (lgE S a b c) = lcnt S := by
  funext l
  unfold lcnt
  rw [lgE_2 (by decide), lgE_2 (by decide), lgE_2 (by decide), lgE_2 (by decide)]
theorem okL_lg {S : kSt} {a b c : Int32} (h : okL S) : okL (lgE S a b c) := by
  intro li hi
  rw [lcnt_lg, lgE_2 (fun z => absurd z.1 (by decide))]
  exact h li hi
theorem inR_3 {x : Int32} (h : inR x (-1) 1 = true) : x = -1 ∨ x = 0 ∨ x = 1 := by
  simp only [inR, Bool.and_eq_true, decide_eq_true_eq] at h
  have h1 := Int32.le_iff_toInt_le.mp h.1
  have h2 := Int32.le_iff_toInt_le.mp h.2
  rw [show (-1 : Int32).toInt = -1 from rfl] at h1
  rw [show (1 : Int32).toInt = 1 from rfl] at h2
  rcases (show x.toInt = -1 ∨ x.toInt = 0 ∨ x.toInt = 1 by omega) with e | e | e
  · exact Or.inl (Int32.toInt_inj.mp e)
  · exact Or.inr (Or.inl (Int32.toInt_inj.mp e))
  · exact Or.inr (Or.inr (Int32.toInt_inj.mp e))
theorem okK_ed {S : kSt} {m : Int32} (h : okK S) : okK (oEd1 S m) := by
  intro a u h1 h2
  simp only [oEd1, kdS, sR]
  split
  · exact Or.inl rfl
  · rw [sI_f (by omega)]; exact h a u h1 h2
theorem okK_mk {S : kSt} {m u x : Int32} (h : okK S) (hx : x = -1 ∨ x = 0 ∨ x = 1) : okK (sI S (100 + cl m) (cl u) x) := by
  intro a v h1 h2
  simp only [kdS, sI]
  split
  · exact hx
  · exact h a v h1 h2
theorem okK_lg {S : kSt} {a b c : Int32} (h : okK S) : okK (lgE S a b c) := by
  intro x u h1 h2
  rw [lgE_kd]
  rw [lgE_2 (by decide)] at h1
  exact h x u h1 h2
theorem drp_kd {S : kSt} {m n : Nat} : kdS (drp S m n) = kdS S := by
  funext a u
  simp only [kdS]
  exact (drp_r S m n).2.1 (100 + a) u (by omega)
theorem okK_drp {S : kSt} {m n : Nat} (h : okK S) : okK (drp S m n) := by
  intro a u h1 h2
  rw [drp_kd]
  rw [(drp_r S m n).1] at h1
  exact h a u h1 h2
theorem dX7_role_0 : decode cX7_role 0 = .ok (.aload_n 0, 1) := by decide +kernel
theorem dX7_role_1 : decode cX7_role 1 = .ok (.iload_n 1, 1) := by decide +kernel
theorem dX7_role_2 : decode cX7_role 2 = .ok (.invokevirtual 74, 3) := by decide +kernel
theorem dX7_role_5 : decode cX7_role 5 = .ok (.astore_n 3, 1) := by decide +kernel
theorem dX7_role_6 : decode cX7_role 6 = .ok (.iload_n 2, 1) := by decide +kernel
theorem dX7_role_7 : decode cX7_role 7 = .ok (.iconst 0, 1) := by decide +kernel
theorem dX7_role_8 : decode cX7_role 8 = .ok (.iconst 3, 1) := by decide +kernel
theorem dX7_role_9 : decode cX7_role 9 = .ok (.invokestatic 55, 3) := by decide +kernel
theorem dX7_role_12 : decode cX7_role 12 = .ok (.aload_n 3, 1) := by decide +kernel
theorem dX7_role_13 : decode cX7_role 13 = .ok (.getfield 78, 3) := by decide +kernel
theorem dX7_role_16 : decode cX7_role 16 = .ok (.istore 4, 2) := by decide +kernel
theorem dX7_role_18 : decode cX7_role 18 = .ok (.aload_n 3, 1) := by decide +kernel
theorem dX7_role_19 : decode cX7_role 19 = .ok (.iload_n 2, 1) := by decide +kernel
theorem dX7_role_20 : decode cX7_role 20 = .ok (.putfield 78, 3) := by decide +kernel
theorem dX7_role_23 : decode cX7_role 23 = .ok (.aload_n 0, 1) := by decide +kernel
theorem dX7_role_24 : decode cX7_role 24 = .ok (.invokevirtual 81, 3) := by decide +kernel
theorem dX7_role_27 : decode cX7_role 27 = .ok (.iload 4, 2) := by decide +kernel
theorem dX7_role_29 : decode cX7_role 29 = .ok (.ireturn, 1) := by decide +kernel
set_option maxHeartbeats 4000000 in
set_option maxRecDepth 100000 in
theorem c_X7_role (l : Launch) (E : State) (G : kG) (S T : kSt) (o : Int64) (ad : kAd) (xu xr : Int32) (hE : kE l E G) (hS : okN S) (hL : okL S) (hK9 : okK S) : vx_Met l yX7_role (.code yX7_role cX7_role 5 (some .int) :: wsL_law) ({ frames := 14, cells := 20, slots := 400, locals := 400 } : Room) (va_Pc [.ref (ad 0 0), .int xu, .int xr] (kPre E G ad (cto G S T o ad))) (kQi E G (fun r ad1 ct1 => (cRole S xu xr = 0 ∧ r = S.1 1 (cl xu)) ∧ ad = ad1 ∧ ct1 = cto G (oRole S (kdS S) xu xr) T o ad)) (kXC E G (fun x ad1 ct1 => ((cRole S xu xr = 1 ∧ x = "java/lang/IndexOutOfBoundsException") ∨ (cRole S xu xr = 2 ∧ x = "java/lang/IllegalArgumentException")) ∧ ad = ad1 ∧ ct1 = cto G S T o ad)) 20 400 (kB E.heap.size) := by
  refine vx_ofW (cc := cX7_role) (maxL := 5) (ret := (some .int)) (by decide) rfl ?_
  intro p e s m args below meth c s₁ B hml hout hv
  obtain ⟨rfl, hM, hK, hW0⟩ := hv
  have hlocks := B.notSynchronized
  have hr := B.returns
  have Z : kZ p m c cX7_role 5 s _ wsL_law RX7 E G := ⟨⟨B.exec, B.bytes, hml, findClass_of_methodNamed B.named, fun w h => atoms_spec (ws := .code yX7_role cX7_role 5 (some .int) :: wsL_law) B.pre w (List.mem_cons_of_mem _ h)⟩, hM, hK⟩
  have hx := Z.1.1
  have hb := Z.1.2.1
  have X := kX.of hW0
  have hl := lv_entry ([.ref (ad 0 0), .int xu, .int xr]) (n := 5) (Nat.le_of_ble_eq_true rfl)
  rw [lg_entry_eq]
  generalize (lg_sl ([.ref (ad 0 0), .int xu, .int xr]) ++ List.replicate (5 - (lg_sl ([.ref (ad 0 0), .int xu, .int xr])).length) Slot.unset).toArray = ls at hl ⊢
  have hl : lv_has ls 5 [(0, .ref (ad 0 0)), (1, .int xu), (2, .int xr)] := hl
  obtain ⟨hT1, hT2, hT3, hT4, hT5, hT6, hT7⟩ := id hS
  refine lv_aload_n hx hb dX7_role_0 rfl (lv_at hl 0 rfl) ?_
  refine lv_iload_n hx hb dX7_role_1 rfl (lv_at hl 1 rfl) ?_
  refine k_xRq X (k_xrunV (As := [.int xu]) (rest := []) Z X (c_X7_userAt l E G S T o ad xu hE hS hL) (k_cwV 1 Z.1.2.2.2.2 (inU_7 _ (List.mem_of_getElem? (i := 18) rfl)) (inU_7 _ (List.mem_of_getElem? (i := 19) rfl)) (inU_7 _ (List.mem_of_getElem? (i := 20) rfl)) (inU_1 _ (List.mem_of_getElem? (i := 2) rfl)) (inU_7 _ (List.mem_of_getElem? (i := 21) rfl)) rfl rfl (by decide +kernel) ⟨Nat.le_of_ble_eq_true rfl, Nat.le_of_ble_eq_true rfl⟩) (k_recv Z X ct_0 rfl) rfl hl.1 rfl (Nat.le_of_ble_eq_true rfl) dX7_role_2 ⟨(Nat.le_of_ble_eq_true rfl), (Nat.le_of_ble_eq_true rfl)⟩) (fun x ce q9 ad1 ct1 H locs hp X x1 x2 x3 => ?_) (fun r_2 ad1 ct1 H locs hp X => ?_)
  · obtain ⟨⟨rfl, hq⟩, ha_, hb_⟩ := hp
    rw [← ha_, hb_] at X
    have hk : cRole S xu xr = 1 := by simp [cRole, hq]
    exact k_out hout hlocks X x1 x2 x3 ⟨Or.inl ⟨hk, rfl⟩, rfl, rfl⟩ (Nat.le_of_ble_eq_true rfl) (Nat.le_of_ble_eq_true rfl)
  obtain ⟨⟨ju, hju, rfl, rfl⟩, ha_, hb_⟩ := hp
  rw [← ha_, hb_] at X
  have q_u : inB (nI ju) (S.2 0 0) = true := inB_nI hju (by omega)
  have hcu : cl (nI ju) = ju := nI_clamp (by omega)
  refine lv_astore_n (lv' := [(3, .ref (ad 4 ju)), (0, .ref (ad 0 0)), (1, .int (nI ju)), (2, .int xr)]) hx hb dX7_role_5 rfl hl (by decide) rfl (fun ls hl => ?_)
  refine lv_iload_n hx hb dX7_role_6 rfl (lv_at hl 3 rfl) ?_
  refine lv_iconst (v := 0) hx hb dX7_role_7 (by decide) ?_
  refine lv_iconst (v := 3) hx hb dX7_role_8 (by decide) ?_
  refine k_xRv X (k_xrunS (As := [.int xr, .int 0, .int 3]) (rest := []) Z X (c_X7_checkRange l E G S T o ad xr 0 3 hE) (k_cwS 3 Z.1.2.2.2.2 (inU_6 _ (List.mem_of_getElem? (i := 16) rfl)) (inU_6 _ (List.mem_of_getElem? (i := 17) rfl)) (inU_1 _ (List.mem_of_getElem? (i := 2) rfl)) (inU_6 _ (List.mem_of_getElem? (i := 18) rfl)) rfl rfl (by decide +kernel) ⟨Nat.le_of_ble_eq_true rfl, Nat.le_of_ble_eq_true rfl⟩) rfl hl.1 rfl (Nat.le_of_ble_eq_true rfl) dX7_role_9 ⟨(Nat.le_of_ble_eq_true rfl), (Nat.le_of_ble_eq_true rfl)⟩) (fun x ce q9 ad1 ct1 H locs hp X x1 x2 x3 => ?_) (fun ad1 ct1 H locs hp X => ?_)
  · obtain ⟨⟨rfl, hq⟩, ha_, hb_⟩ := hp
    rw [← ha_, hb_] at X
    have hk : cRole S (nI ju) xr = 2 := by simp [cRole, q_u, hcu, hq]
    exact k_out hout hlocks X x1 x2 x3 ⟨Or.inr ⟨hk, rfl⟩, rfl, rfl⟩ (Nat.le_of_ble_eq_true rfl) (Nat.le_of_ble_eq_true rfl)
  obtain ⟨q_r, ha_, hb_⟩ := hp
  rw [← ha_, hb_] at X
  refine lv_aload_n hx hb dX7_role_12 rfl (lv_at hl 0 rfl) ?_
  refine k_get (index := 78) (j := 1) (ad := ad) (k := 4) (i := ju) Z X (ct_4 (by first | assumption | omega | decide)) inlX6 rfl (by decide) (inU_7 _ (List.mem_of_getElem? (i := 17) rfl)) (fun _ h => h) (v := .int (S.1 1 ju)) rfl dX7_role_13 ?_
  refine lv_istore (lv' := [(4, .int (S.1 1 ju)), (3, .ref (ad 4 ju)), (0, .ref (ad 0 0)), (1, .int (nI ju)), (2, .int xr)]) hx hb dX7_role_16 hl (by decide) rfl (fun ls hl => ?_)
  refine lv_aload_n hx hb dX7_role_18 rfl (lv_at hl 1 rfl) ?_
  refine lv_iload_n hx hb dX7_role_19 rfl (lv_at hl 4 rfl) ?_
  refine k_put (index := 78) (j := 1) (k := 4) (i := ju) Z X (ct_4 (by first | assumption | omega | decide)) inlX6 tyX6_ok nmX6 rfl (by decide) (inU_7 _ (List.mem_of_getElem? (i := 17) rfl)) (fun _ h => h) rfl (Nat.le_of_ble_eq_true rfl) rfl rfl dX7_role_20 (fun H locs X => ?_)
  have X : kX E G s H locs ad (cto G (sI S 1 ju xr) T o ad) := X.eq (cs_rank _ _ hju)
  refine lv_aload_n hx hb dX7_role_23 rfl (lv_at hl 2 rfl) ?_
  refine k_Rv X (k_runV (As := []) (rest := []) Z X (c_X7_takeSpendsBack l E G (sI S 1 ju xr) T o ad (okN_c sI_2 hS) (okL_c sI_2 hL) (okK_sI hK9)) (k_cwV 0 Z.1.2.2.2.2 (inU_8 _ (List.mem_of_getElem? (i := 17) rfl)) (inU_8 _ (List.mem_of_getElem? (i := 18) rfl)) (inU_8 _ (List.mem_of_getElem? (i := 19) rfl)) (inU_1 _ (List.mem_of_getElem? (i := 2) rfl)) (inU_8 _ (List.mem_of_getElem? (i := 20) rfl)) rfl rfl (by decide +kernel) ⟨Nat.le_of_ble_eq_true rfl, Nat.le_of_ble_eq_true rfl⟩) (k_recv Z X ct_0 rfl) rfl hl.1 rfl (Nat.le_of_ble_eq_true rfl) dX7_role_24 ⟨(by first | exact Nat.le_of_ble_eq_true rfl | (show _ ≤ (_ : Nat); simp only [headSpec]; omega)), (by first | exact Nat.le_of_ble_eq_true rfl | (show _ ≤ (_ : Nat); simp only [headSpec]; omega))⟩) (fun ad1 ct1 H locs hp X => ?_)
  obtain ⟨ha_, hb_⟩ := hp
  rw [← ha_, hb_] at X
  have X : kX E G s H locs ad (cto G (stl (sI S 1 ju xr) (kdS (sI S 1 ju xr)) (S.2 0 2)) T o ad) := X
  refine lv_iload hx hb dX7_role_27 (lv_at hl 0 rfl) ?_
  have hk : cRole S (nI ju) xr = 0 := by simp [cRole, q_u, hcu, q_r]
  exact vx_ret (k_iret Z X hr hlocks rfl (Nat.le_of_ble_eq_true rfl) (Nat.le_of_ble_eq_true rfl) dX7_role_29 ⟨⟨hk, by rw [hcu]⟩, rfl, by rw [oRole, hcu, kdS_sI (by decide)]⟩)
theorem dX7_ends_0 : decode cX7_ends 0 = .ok (.aload_n 0, 1) := by decide +kernel
theorem dX7_ends_1 : decode cX7_ends 1 = .ok (.iload_n 1, 1) := by decide +kernel
theorem dX7_ends_2 : decode cX7_ends 2 = .ok (.invokevirtual 74, 3) := by decide +kernel
theorem dX7_ends_5 : decode cX7_ends 5 = .ok (.astore_n 3, 1) := by decide +kernel
theorem dX7_ends_6 : decode cX7_ends 6 = .ok (.iload_n 2, 1) := by decide +kernel
theorem dX7_ends_7 : decode cX7_ends 7 = .ok (.iconst (-1), 1) := by decide +kernel
theorem dX7_ends_8 : decode cX7_ends 8 = .ok (.sipush 10000, 3) := by decide +kernel
theorem dX7_ends_11 : decode cX7_ends 11 = .ok (.invokestatic 55, 3) := by decide +kernel
theorem dX7_ends_14 : decode cX7_ends 14 = .ok (.aload_n 3, 1) := by decide +kernel
theorem dX7_ends_15 : decode cX7_ends 15 = .ok (.iload_n 2, 1) := by decide +kernel
theorem dX7_ends_16 : decode cX7_ends 16 = .ok (.iconst (-1), 1) := by decide +kernel
theorem dX7_ends_17 : decode cX7_ends 17 = .ok (.if_icmp .ne 7, 3) := by decide +kernel
theorem dX7_ends_20 : decode cX7_ends 20 = .ok (.iconst (-1), 1) := by decide +kernel
theorem dX7_ends_21 : decode cX7_ends 21 = .ok (.goto 9, 3) := by decide +kernel
theorem dX7_ends_24 : decode cX7_ends 24 = .ok (.aload_n 0, 1) := by decide +kernel
theorem dX7_ends_25 : decode cX7_ends 25 = .ok (.getfield 51, 3) := by decide +kernel
theorem dX7_ends_28 : decode cX7_ends 28 = .ok (.iload_n 2, 1) := by decide +kernel
theorem dX7_ends_29 : decode cX7_ends 29 = .ok (.iadd, 1) := by decide +kernel
theorem dX7_ends_30 : decode cX7_ends 30 = .ok (.putfield 84, 3) := by decide +kernel
theorem dX7_ends_33 : decode cX7_ends 33 = .ok (.aload_n 0, 1) := by decide +kernel
theorem dX7_ends_34 : decode cX7_ends 34 = .ok (.invokevirtual 81, 3) := by decide +kernel
theorem dX7_ends_37 : decode cX7_ends 37 = .ok (.aload_n 3, 1) := by decide +kernel
theorem dX7_ends_38 : decode cX7_ends 38 = .ok (.getfield 84, 3) := by decide +kernel
theorem dX7_ends_41 : decode cX7_ends 41 = .ok (.ireturn, 1) := by decide +kernel
set_option maxHeartbeats 4000000 in
set_option maxRecDepth 100000 in
theorem c_X7_ends (l : Launch) (E : State) (G : kG) (S T : kSt) (o : Int64) (ad : kAd) (xu xh : Int32) (hE : kE l E G) (hS : okN S) (hL : okL S) (hK9 : okK S) : vx_Met l yX7_ends (.code yX7_ends cX7_ends 4 (some .int) :: wsL_law) ({ frames := 14, cells := 20, slots := 400, locals := 400 } : Room) (va_Pc [.ref (ad 0 0), .int xu, .int xh] (kPre E G ad (cto G S T o ad))) (kQi E G (fun r ad1 ct1 => (cEnds S xu xh = 0 ∧ r = vEnds S xh) ∧ ad = ad1 ∧ ct1 = cto G (oEnds S (kdS S) xu xh) T o ad)) (kXC E G (fun x ad1 ct1 => ((cEnds S xu xh = 1 ∧ x = "java/lang/IndexOutOfBoundsException") ∨ (cEnds S xu xh = 2 ∧ x = "java/lang/IllegalArgumentException")) ∧ ad = ad1 ∧ ct1 = cto G S T o ad)) 20 400 (kB E.heap.size) := by
  refine vx_ofW (cc := cX7_ends) (maxL := 4) (ret := (some .int)) (by decide) rfl ?_
  intro p e s m args below meth c s₁ B hml hout hv
  obtain ⟨rfl, hM, hK, hW0⟩ := hv
  have hlocks := B.notSynchronized
  have hr := B.returns
  have Z : kZ p m c cX7_ends 4 s _ wsL_law RX7 E G := ⟨⟨B.exec, B.bytes, hml, findClass_of_methodNamed B.named, fun w h => atoms_spec (ws := .code yX7_ends cX7_ends 4 (some .int) :: wsL_law) B.pre w (List.mem_cons_of_mem _ h)⟩, hM, hK⟩
  have hx := Z.1.1
  have hb := Z.1.2.1
  have X := kX.of hW0
  have hl := lv_entry ([.ref (ad 0 0), .int xu, .int xh]) (n := 4) (Nat.le_of_ble_eq_true rfl)
  rw [lg_entry_eq]
  generalize (lg_sl ([.ref (ad 0 0), .int xu, .int xh]) ++ List.replicate (4 - (lg_sl ([.ref (ad 0 0), .int xu, .int xh])).length) Slot.unset).toArray = ls at hl ⊢
  have hl : lv_has ls 4 [(0, .ref (ad 0 0)), (1, .int xu), (2, .int xh)] := hl
  obtain ⟨hT1, hT2, hT3, hT4, hT5, hT6, hT7⟩ := id hS
  refine lv_aload_n hx hb dX7_ends_0 rfl (lv_at hl 0 rfl) ?_
  refine lv_iload_n hx hb dX7_ends_1 rfl (lv_at hl 1 rfl) ?_
  refine k_xRq X (k_xrunV (As := [.int xu]) (rest := []) Z X (c_X7_userAt l E G S T o ad xu hE hS hL) (k_cwV 1 Z.1.2.2.2.2 (inU_7 _ (List.mem_of_getElem? (i := 18) rfl)) (inU_7 _ (List.mem_of_getElem? (i := 19) rfl)) (inU_7 _ (List.mem_of_getElem? (i := 20) rfl)) (inU_1 _ (List.mem_of_getElem? (i := 2) rfl)) (inU_7 _ (List.mem_of_getElem? (i := 21) rfl)) rfl rfl (by decide +kernel) ⟨Nat.le_of_ble_eq_true rfl, Nat.le_of_ble_eq_true rfl⟩) (k_recv Z X ct_0 rfl) rfl hl.1 rfl (Nat.le_of_ble_eq_true rfl) dX7_ends_2 ⟨(Nat.le_of_ble_eq_true rfl), (Nat.le_of_ble_eq_true rfl)⟩) (fun x ce q9 ad1 ct1 H locs hp X x1 x2 x3 => ?_) (fun r_2 ad1 ct1 H locs hp X => ?_)
  · obtain ⟨⟨rfl, hq⟩, ha_, hb_⟩ := hp
    rw [← ha_, hb_] at X
    have hk : cEnds S xu xh = 1 := by simp [cEnds, hq]
    exact k_out hout hlocks X x1 x2 x3 ⟨Or.inl ⟨hk, rfl⟩, rfl, rfl⟩ (Nat.le_of_ble_eq_true rfl) (Nat.le_of_ble_eq_true rfl)
  obtain ⟨⟨ju, hju, rfl, rfl⟩, ha_, hb_⟩ := hp
  rw [← ha_, hb_] at X
  have q_u : inB (nI ju) (S.2 0 0) = true := inB_nI hju (by omega)
  have hcu : cl (nI ju) = ju := nI_clamp (by omega)
  refine lv_astore_n (lv' := [(3, .ref (ad 4 ju)), (0, .ref (ad 0 0)), (1, .int (nI ju)), (2, .int xh)]) hx hb dX7_ends_5 rfl hl (by decide) rfl (fun ls hl => ?_)
  refine lv_iload_n hx hb dX7_ends_6 rfl (lv_at hl 3 rfl) ?_
  refine lv_iconst (v := (-1)) hx hb dX7_ends_7 (by decide) ?_
  refine lv_sipush (v := 10000) hx hb dX7_ends_8 (by decide) ?_
  refine k_xRv X (k_xrunS (As := [.int xh, .int (-1), .int 10000]) (rest := []) Z X (c_X7_checkRange l E G S T o ad xh (-1) 10000 hE) (k_cwS 3 Z.1.2.2.2.2 (inU_6 _ (List.mem_of_getElem? (i := 16) rfl)) (inU_6 _ (List.mem_of_getElem? (i := 17) rfl)) (inU_1 _ (List.mem_of_getElem? (i := 2) rfl)) (inU_6 _ (List.mem_of_getElem? (i := 18) rfl)) rfl rfl (by decide +kernel) ⟨Nat.le_of_ble_eq_true rfl, Nat.le_of_ble_eq_true rfl⟩) rfl hl.1 rfl (Nat.le_of_ble_eq_true rfl) dX7_ends_11 ⟨(Nat.le_of_ble_eq_true rfl), (Nat.le_of_ble_eq_true rfl)⟩) (fun x ce q9 ad1 ct1 H locs hp X x1 x2 x3 => ?_) (fun ad1 ct1 H locs hp X => ?_)
  · obtain ⟨⟨rfl, hq⟩, ha_, hb_⟩ := hp
    rw [← ha_, hb_] at X
    have hk : cEnds S (nI ju) xh = 2 := by simp [cEnds, q_u, hcu, hq]
    exact k_out hout hlocks X x1 x2 x3 ⟨Or.inr ⟨hk, rfl⟩, rfl, rfl⟩ (Nat.le_of_ble_eq_true rfl) (Nat.le_of_ble_eq_true rfl)
  obtain ⟨q_r, ha_, hb_⟩ := hp
  rw [← ha_, hb_] at X
  refine lv_aload_n hx hb dX7_ends_14 rfl (lv_at hl 0 rfl) ?_
  have M_30 : ∀ (H : Heap) (locs : List Loc), kX E G s H locs ad (cto G S T o ad) → W p l e (headSpec (Cond.code yX7_ends cX7_ends 4 (some .int) :: wsL_law) ({ frames := 14, cells := 20, slots := 400, locals := 400 } : Room)).room s m ([.ref (ad 0 0), .int (nI ju), .int xh] : List Value).toArray below meth c H locs 2 12 (vx_MQ below (kQi E G (fun r ad1 ct1 => (cEnds S (nI ju) xh = 0 ∧ r = vEnds S xh) ∧ ad = ad1 ∧ ct1 = cto G (oEnds S (kdS S) (nI ju) xh) T o ad)) (kXC E G (fun x ad1 ct1 => ((cEnds S (nI ju) xh = 1 ∧ x = "java/lang/IndexOutOfBoundsException") ∨ (cEnds S (nI ju) xh = 2 ∧ x = "java/lang/IllegalArgumentException")) ∧ ad = ad1 ∧ ct1 = cto G S T o ad)) ([.ref (ad 0 0), .int (nI ju), .int xh] : List Value).toArray s 20 400 (kB E.heap.size)) (F0 m 30 ls [.int (vEnds S xh), .ref (ad 4 ju)]) := by
    intro H locs X
    refine k_put (index := 84) (j := 2) (k := 4) (i := ju) Z X (ct_4 (by first | assumption | omega | decide)) inlX6 tyX6_ok nmX6 rfl (by decide) (inU_10 _ (List.mem_of_getElem? (i := 7) rfl)) (fun _ h => h) rfl (Nat.le_of_ble_eq_true rfl) rfl rfl dX7_ends_30 (fun H locs X => ?_)
    have X : kX E G s H locs ad (cto G (sI S 2 ju (vEnds S xh)) T o ad) := X.eq (cs_end _ _ hju)
    refine lv_aload_n hx hb dX7_ends_33 rfl (lv_at hl 1 rfl) ?_
    refine k_Rv X (k_runV (As := []) (rest := []) Z X (c_X7_takeSpendsBack l E G (sI S 2 ju (vEnds S xh)) T o ad (okN_c sI_2 hS) (okL_c sI_2 hL) (okK_sI hK9)) (k_cwV 0 Z.1.2.2.2.2 (inU_8 _ (List.mem_of_getElem? (i := 17) rfl)) (inU_8 _ (List.mem_of_getElem? (i := 18) rfl)) (inU_8 _ (List.mem_of_getElem? (i := 19) rfl)) (inU_1 _ (List.mem_of_getElem? (i := 2) rfl)) (inU_8 _ (List.mem_of_getElem? (i := 20) rfl)) rfl rfl (by decide +kernel) ⟨Nat.le_of_ble_eq_true rfl, Nat.le_of_ble_eq_true rfl⟩) (k_recv Z X ct_0 rfl) rfl hl.1 rfl (Nat.le_of_ble_eq_true rfl) dX7_ends_34 ⟨(by first | exact Nat.le_of_ble_eq_true rfl | (show _ ≤ (_ : Nat); simp only [headSpec]; omega)), (by first | exact Nat.le_of_ble_eq_true rfl | (show _ ≤ (_ : Nat); simp only [headSpec]; omega))⟩) (fun ad1 ct1 H locs hp X => ?_)
    obtain ⟨ha_, hb_⟩ := hp
    rw [← ha_, hb_] at X
    have X : kX E G s H locs ad (cto G (stl (sI S 2 ju (vEnds S xh)) (kdS (sI S 2 ju (vEnds S xh))) (S.2 0 2)) T o ad) := X
    refine lv_aload_n hx hb dX7_ends_37 rfl (lv_at hl 0 rfl) ?_
    refine k_get (index := 84) (j := 2) (ad := ad) (k := 4) (i := ju) Z X (ct_4 (show ju < (stl _ _ _).2 0 0 by rw [(stl_r _ _ _).1]; exact hju)) inlX6 rfl (by decide) (inU_10 _ (List.mem_of_getElem? (i := 7) rfl)) (fun _ h => h) (v := .int ((stl (sI S 2 ju (vEnds S xh)) (kdS (sI S 2 ju (vEnds S xh))) (S.2 0 2)).1 2 ju)) rfl dX7_ends_38 ?_
    refine lv_topi (fun x_38 e_38 => ?_)
    obtain rfl : x_38 = vEnds S xh := e_38.trans (((stl_r _ _ _).2.1 2 _ (by decide) (by decide)).trans sI_s)
    have hk : cEnds S (nI ju) xh = 0 := by simp [cEnds, q_u, hcu, q_r]
    exact vx_ret (k_iret Z X hr hlocks rfl (Nat.le_of_ble_eq_true rfl) (Nat.le_of_ble_eq_true rfl) dX7_ends_41 ⟨⟨hk, rfl⟩, rfl, by rw [oEnds, hcu, kdS_sI (by decide)]⟩)
  refine lv_iload_n hx hb dX7_ends_15 rfl (lv_at hl 3 rfl) ?_
  refine lv_iconst (v := (-1)) hx hb dX7_ends_16 (by decide) ?_
  refine lv_icmp_ne (tgt := 24) hx hb dX7_ends_17 (by decide) (fun c_17 => ?_) (fun c_17 => ?_)
  · refine lv_aload_n hx hb dX7_ends_24 rfl (lv_at hl 1 rfl) ?_
    refine k_get (index := 51) (j := 7) (ad := ad) (k := 0) (i := 0) Z X ct_0 inlX7 rfl (by decide) (inU_2 _ (List.mem_of_getElem? (i := 10) rfl)) (fun _ h => h) (v := .int (S.1 0 0)) rfl dX7_ends_25 ?_
    refine lv_iload_n hx hb dX7_ends_28 rfl (lv_at hl 3 rfl) ?_
    refine lv_iadd hx hb dX7_ends_29 ?_
    exact W.eq (congrArg (fun z => F0 m 30 ls (.int z :: [.ref (ad 4 ju)])) (by simp [vEnds, c_17])) (M_30 _ _ X)
  · refine lv_iconst (v := (-1)) hx hb dX7_ends_20 (by decide) ?_
    refine lv_goto (tgt := 30) hx hb dX7_ends_21 (by decide) ?_
    exact W.eq (congrArg (fun z => F0 m 30 ls (.int z :: [.ref (ad 4 ju)])) (by simp [vEnds, c_17])) (M_30 _ _ X)
theorem dX7_budget_0 : decode cX7_budget 0 = .ok (.aload_n 0, 1) := by decide +kernel
theorem dX7_budget_1 : decode cX7_budget 1 = .ok (.iload_n 1, 1) := by decide +kernel
theorem dX7_budget_2 : decode cX7_budget 2 = .ok (.invokevirtual 87, 3) := by decide +kernel
theorem dX7_budget_5 : decode cX7_budget 5 = .ok (.astore_n 3, 1) := by decide +kernel
theorem dX7_budget_6 : decode cX7_budget 6 = .ok (.iload_n 2, 1) := by decide +kernel
theorem dX7_budget_7 : decode cX7_budget 7 = .ok (.iconst 0, 1) := by decide +kernel
theorem dX7_budget_8 : decode cX7_budget 8 = .ok (.ldc 91, 2) := by decide +kernel
theorem dX7_budget_10 : decode cX7_budget 10 = .ok (.invokestatic 55, 3) := by decide +kernel
theorem dX7_budget_13 : decode cX7_budget 13 = .ok (.aload_n 3, 1) := by decide +kernel
theorem dX7_budget_14 : decode cX7_budget 14 = .ok (.getfield 92, 3) := by decide +kernel
theorem dX7_budget_17 : decode cX7_budget 17 = .ok (.iload_n 2, 1) := by decide +kernel
theorem dX7_budget_18 : decode cX7_budget 18 = .ok (.iadd, 1) := by decide +kernel
theorem dX7_budget_19 : decode cX7_budget 19 = .ok (.ldc 95, 2) := by decide +kernel
theorem dX7_budget_21 : decode cX7_budget 21 = .ok (.if_icmp .le 13, 3) := by decide +kernel
theorem dX7_budget_24 : decode cX7_budget 24 = .ok (.new 96, 3) := by decide +kernel
theorem dX7_budget_27 : decode cX7_budget 27 = .ok (.dup, 1) := by decide +kernel
theorem dX7_budget_28 : decode cX7_budget 28 = .ok (.ldc 98, 2) := by decide +kernel
theorem dX7_budget_30 : decode cX7_budget 30 = .ok (.invokespecial 100, 3) := by decide +kernel
theorem dX7_budget_33 : decode cX7_budget 33 = .ok (.athrow, 1) := by decide +kernel
theorem dX7_budget_34 : decode cX7_budget 34 = .ok (.aload_n 3, 1) := by decide +kernel
theorem dX7_budget_35 : decode cX7_budget 35 = .ok (.dup, 1) := by decide +kernel
theorem dX7_budget_36 : decode cX7_budget 36 = .ok (.getfield 92, 3) := by decide +kernel
theorem dX7_budget_39 : decode cX7_budget 39 = .ok (.iload_n 2, 1) := by decide +kernel
theorem dX7_budget_40 : decode cX7_budget 40 = .ok (.iadd, 1) := by decide +kernel
theorem dX7_budget_41 : decode cX7_budget 41 = .ok (.putfield 92, 3) := by decide +kernel
theorem dX7_budget_44 : decode cX7_budget 44 = .ok (.aload_n 3, 1) := by decide +kernel
theorem dX7_budget_45 : decode cX7_budget 45 = .ok (.getfield 92, 3) := by decide +kernel
theorem dX7_budget_48 : decode cX7_budget 48 = .ok (.ireturn, 1) := by decide +kernel
set_option maxHeartbeats 4000000 in
set_option maxRecDepth 100000 in
theorem c_X7_budget (l : Launch) (E : State) (G : kG) (S T : kSt) (o : Int64) (ad : kAd) (xc xb : Int32) (hE : kE l E G) (hS : okN S) (hL : okL S) : vx_Met l yX7_budget (.code yX7_budget cX7_budget 4 (some .int) :: wsL_law) ({ frames := 14, cells := 20, slots := 400, locals := 400 } : Room) (va_Pc [.ref (ad 0 0), .int xc, .int xb] (kPre E G ad (cto G S T o ad))) (kQi E G (fun r ad1 ct1 => (cBudget S xc xb = 0 ∧ r = S.1 3 (cl xc) + xb) ∧ ad = ad1 ∧ ct1 = cto G (oBudget S xc xb) T o ad)) (kXC E G (fun x ad1 ct1 => ((cBudget S xc xb = 1 ∧ x = "java/lang/IndexOutOfBoundsException") ∨ (cBudget S xc xb = 2 ∧ x = "java/lang/IllegalArgumentException") ∨ (cBudget S xc xb = 3 ∧ x = "java/lang/IllegalStateException")) ∧ ad = ad1 ∧ ct1 = cto G S T o ad)) 20 400 (kB E.heap.size) := by
  refine vx_ofW (cc := cX7_budget) (maxL := 4) (ret := (some .int)) (by decide) rfl ?_
  intro p e s m args below meth c s₁ B hml hout hv
  obtain ⟨rfl, hM, hK, hW0⟩ := hv
  have hlocks := B.notSynchronized
  have hr := B.returns
  have Z : kZ p m c cX7_budget 4 s _ wsL_law RX7 E G := ⟨⟨B.exec, B.bytes, hml, findClass_of_methodNamed B.named, fun w h => atoms_spec (ws := .code yX7_budget cX7_budget 4 (some .int) :: wsL_law) B.pre w (List.mem_cons_of_mem _ h)⟩, hM, hK⟩
  have hx := Z.1.1
  have hb := Z.1.2.1
  have X := kX.of hW0
  have hl := lv_entry ([.ref (ad 0 0), .int xc, .int xb]) (n := 4) (Nat.le_of_ble_eq_true rfl)
  rw [lg_entry_eq]
  generalize (lg_sl ([.ref (ad 0 0), .int xc, .int xb]) ++ List.replicate (4 - (lg_sl ([.ref (ad 0 0), .int xc, .int xb])).length) Slot.unset).toArray = ls at hl ⊢
  have hl : lv_has ls 4 [(0, .ref (ad 0 0)), (1, .int xc), (2, .int xb)] := hl
  obtain ⟨hT1, hT2, hT3, hT4, hT5, hT6, hT7⟩ := id hS
  refine lv_aload_n hx hb dX7_budget_0 rfl (lv_at hl 0 rfl) ?_
  refine lv_iload_n hx hb dX7_budget_1 rfl (lv_at hl 1 rfl) ?_
  refine k_xRq X (k_xrunV (As := [.int xc]) (rest := []) Z X (c_X7_channelAt l E G S T o ad xc hE hS hL) (k_cwV 1 Z.1.2.2.2.2 (inU_10 _ (List.mem_of_getElem? (i := 14) rfl)) (inU_10 _ (List.mem_of_getElem? (i := 15) rfl)) (inU_10 _ (List.mem_of_getElem? (i := 16) rfl)) (inU_1 _ (List.mem_of_getElem? (i := 2) rfl)) (inU_10 _ (List.mem_of_getElem? (i := 17) rfl)) rfl rfl (by decide +kernel) ⟨Nat.le_of_ble_eq_true rfl, Nat.le_of_ble_eq_true rfl⟩) (k_recv Z X ct_0 rfl) rfl hl.1 rfl (Nat.le_of_ble_eq_true rfl) dX7_budget_2 ⟨(Nat.le_of_ble_eq_true rfl), (Nat.le_of_ble_eq_true rfl)⟩) (fun x ce q9 ad1 ct1 H locs hp X x1 x2 x3 => ?_) (fun r_2 ad1 ct1 H locs hp X => ?_)
  · obtain ⟨⟨rfl, hq⟩, ha_, hb_⟩ := hp
    rw [← ha_, hb_] at X
    have hk : cBudget S xc xb = 1 := by simp [cBudget, hq]
    exact k_out hout hlocks X x1 x2 x3 ⟨Or.inl ⟨hk, rfl⟩, rfl, rfl⟩ (Nat.le_of_ble_eq_true rfl) (Nat.le_of_ble_eq_true rfl)
  obtain ⟨⟨jc, hjc, rfl, rfl⟩, ha_, hb_⟩ := hp
  rw [← ha_, hb_] at X
  have q_c : inB (nI jc) 6 = true := inB_nI hjc (by omega)
  have hcc : cl (nI jc) = jc := nI_clamp (by omega)
  refine lv_astore_n (lv' := [(3, .ref (ad 3 jc)), (0, .ref (ad 0 0)), (1, .int (nI jc)), (2, .int xb)]) hx hb dX7_budget_5 rfl hl (by decide) rfl (fun ls hl => ?_)
  refine lv_iload_n hx hb dX7_budget_6 rfl (lv_at hl 3 rfl) ?_
  refine lv_iconst (v := 0) hx hb dX7_budget_7 (by decide) ?_
  refine lv_ldc (v := 1000000) hx hb Z.1.2.2.2.1 (Z.1.2.2.2.2 _ (inU_10 _ (List.mem_of_getElem? (i := 12) rfl))) dX7_budget_8 ?_
  refine k_xRv X (k_xrunS (As := [.int xb, .int 0, .int 1000000]) (rest := []) Z X (c_X7_checkRange l E G S T o ad xb 0 1000000 hE) (k_cwS 3 Z.1.2.2.2.2 (inU_6 _ (List.mem_of_getElem? (i := 16) rfl)) (inU_6 _ (List.mem_of_getElem? (i := 17) rfl)) (inU_1 _ (List.mem_of_getElem? (i := 2) rfl)) (inU_6 _ (List.mem_of_getElem? (i := 18) rfl)) rfl rfl (by decide +kernel) ⟨Nat.le_of_ble_eq_true rfl, Nat.le_of_ble_eq_true rfl⟩) rfl hl.1 rfl (Nat.le_of_ble_eq_true rfl) dX7_budget_10 ⟨(Nat.le_of_ble_eq_true rfl), (Nat.le_of_ble_eq_true rfl)⟩) (fun x ce q9 ad1 ct1 H locs hp X x1 x2 x3 => ?_) (fun ad1 ct1 H locs hp X => ?_)
  · obtain ⟨⟨rfl, hq⟩, ha_, hb_⟩ := hp
    rw [← ha_, hb_] at X
    have hk : cBudget S (nI jc) xb = 2 := by simp [cBudget, q_c, hcc, hq]
    exact k_out hout hlocks X x1 x2 x3 ⟨Or.inr (Or.inl ⟨hk, rfl⟩), rfl, rfl⟩ (Nat.le_of_ble_eq_true rfl) (Nat.le_of_ble_eq_true rfl)
  obtain ⟨q_r, ha_, hb_⟩ := hp
  rw [← ha_, hb_] at X
  refine lv_aload_n hx hb dX7_budget_13 rfl (lv_at hl 0 rfl) ?_
  refine k_get (index := 92) (j := 1) (ad := ad) (k := 3) (i := jc) Z X (ct_3 (by first | assumption | omega | decide)) inlX0 rfl (by decide) (inU_9 _ (List.mem_of_getElem? (i := 1) rfl)) (fun _ h => h) (v := .int (S.1 3 jc)) rfl dX7_budget_14 ?_
  refine lv_iload_n hx hb dX7_budget_17 rfl (lv_at hl 3 rfl) ?_
  refine lv_iadd hx hb dX7_budget_18 ?_
  refine lv_ldc (v := 1000000000) hx hb Z.1.2.2.2.1 (Z.1.2.2.2.2 _ (inU_10 _ (List.mem_of_getElem? (i := 13) rfl))) dX7_budget_19 ?_
  refine lv_icmp_le (tgt := 34) hx hb dX7_budget_21 (by decide) (fun c_21 => ?_) (fun c_21 => ?_)
  · have c_21 : ¬ (1000000000 : Int32) < S.1 3 jc + xb := Int32.not_lt.mpr c_21
    refine lv_aload_n hx hb dX7_budget_34 rfl (lv_at hl 0 rfl) ?_
    refine lv_dup hx hb dX7_budget_35 rfl ?_
    refine k_get (index := 92) (j := 1) (ad := ad) (k := 3) (i := jc) Z X (ct_3 (by first | assumption | omega | decide)) inlX0 rfl (by decide) (inU_9 _ (List.mem_of_getElem? (i := 1) rfl)) (fun _ h => h) (v := .int (S.1 3 jc)) rfl dX7_budget_36 ?_
    refine lv_iload_n hx hb dX7_budget_39 rfl (lv_at hl 3 rfl) ?_
    refine lv_iadd hx hb dX7_budget_40 ?_
    refine k_put (index := 92) (j := 1) (k := 3) (i := jc) Z X (ct_3 (by first | assumption | omega | decide)) inlX0 tyX0_ok nmX0 rfl (by decide) (inU_9 _ (List.mem_of_getElem? (i := 1) rfl)) (fun _ h => h) rfl (Nat.le_of_ble_eq_true rfl) rfl rfl dX7_budget_41 (fun H locs X => ?_)
    have X : kX E G s H locs ad (cto G (sI S 3 jc ((S.1 3 jc) + xb)) T o ad) := X.eq (cs_cents _ _ hjc)
    refine lv_aload_n hx hb dX7_budget_44 rfl (lv_at hl 0 rfl) ?_
    refine k_get (index := 92) (j := 1) (ad := ad) (k := 3) (i := jc) Z X (ct_3 (by first | assumption | omega | decide)) inlX0 rfl (by decide) (inU_9 _ (List.mem_of_getElem? (i := 1) rfl)) (fun _ h => h) (v := .int ((S.1 3 jc) + xb)) (by simp [sI]) dX7_budget_45 ?_
    have hk : cBudget S (nI jc) xb = 0 := by simp [cBudget, q_c, hcc, q_r, c_21]
    exact vx_ret (k_iret Z X hr hlocks rfl (Nat.le_of_ble_eq_true rfl) (Nat.le_of_ble_eq_true rfl) dX7_budget_48 ⟨⟨hk, by rw [hcc]⟩, rfl, by rw [oBudget, hcc]⟩)
  · have c_21 : (1000000000 : Int32) < S.1 3 jc + xb := Int32.not_le.mp c_21
    have hk : cBudget S (nI jc) xb = 3 := by simp [cBudget, q_c, hcc, q_r, c_21]
    exact k_throwS hE Z X hout hlocks hl.1 kThr_ISE (inU_7 _ (List.mem_of_getElem? (i := 4) rfl)) (inU_7 _ (List.mem_of_getElem? (i := 5) rfl)) (text := "the budget would be too high") (List.mem_of_getElem? (i := 0) rfl) dX7_budget_24 dX7_budget_27 dX7_budget_28 dX7_budget_30 dX7_budget_33 (Nat.le_of_ble_eq_true rfl) ⟨(Nat.le_of_ble_eq_true rfl), (Nat.le_of_ble_eq_true rfl), (Nat.le_of_ble_eq_true rfl), (Nat.le_of_ble_eq_true rfl)⟩ ⟨(Nat.le_of_ble_eq_true rfl), (Nat.le_of_ble_eq_true rfl)⟩ ⟨(Nat.le_of_ble_eq_true rfl), (Nat.le_of_ble_eq_true rfl)⟩ ⟨Or.inr (Or.inr ⟨hk, rfl⟩), rfl, rfl⟩
theorem dX7_edit_0 : decode cX7_edit 0 = .ok (.aload_n 0, 1) := by decide +kernel
theorem dX7_edit_1 : decode cX7_edit 1 = .ok (.iload_n 1, 1) := by decide +kernel
theorem dX7_edit_2 : decode cX7_edit 2 = .ok (.invokevirtual 74, 3) := by decide +kernel
theorem dX7_edit_5 : decode cX7_edit 5 = .ok (.astore_n 3, 1) := by decide +kernel
theorem dX7_edit_6 : decode cX7_edit 6 = .ok (.aload_n 0, 1) := by decide +kernel
theorem dX7_edit_7 : decode cX7_edit 7 = .ok (.iload_n 2, 1) := by decide +kernel
theorem dX7_edit_8 : decode cX7_edit 8 = .ok (.invokevirtual 103, 3) := by decide +kernel
theorem dX7_edit_11 : decode cX7_edit 11 = .ok (.astore 4, 2) := by decide +kernel
theorem dX7_edit_13 : decode cX7_edit 13 = .ok (.aload_n 0, 1) := by decide +kernel
theorem dX7_edit_14 : decode cX7_edit 14 = .ok (.aload_n 3, 1) := by decide +kernel
theorem dX7_edit_15 : decode cX7_edit 15 = .ok (.invokevirtual 120, 3) := by decide +kernel
theorem dX7_edit_18 : decode cX7_edit 18 = .ok (.aload 4, 2) := by decide +kernel
theorem dX7_edit_20 : decode cX7_edit 20 = .ok (.invokestatic 107, 3) := by decide +kernel
theorem dX7_edit_23 : decode cX7_edit 23 = .ok (.aload_n 0, 1) := by decide +kernel
theorem dX7_edit_24 : decode cX7_edit 24 = .ok (.getfield 40, 3) := by decide +kernel
theorem dX7_edit_27 : decode cX7_edit 27 = .ok (.getfield 128, 3) := by decide +kernel
theorem dX7_edit_30 : decode cX7_edit 30 = .ok (.sipush 512, 3) := by decide +kernel
theorem dX7_edit_33 : decode cX7_edit 33 = .ok (.invokestatic 63, 3) := by decide +kernel
theorem dX7_edit_36 : decode cX7_edit 36 = .ok (.aload 4, 2) := by decide +kernel
theorem dX7_edit_38 : decode cX7_edit 38 = .ok (.getfield 130, 3) := by decide +kernel
theorem dX7_edit_41 : decode cX7_edit 41 = .ok (.getfield 71, 3) := by decide +kernel
theorem dX7_edit_44 : decode cX7_edit 44 = .ok (.aload_n 3, 1) := by decide +kernel
theorem dX7_edit_45 : decode cX7_edit 45 = .ok (.getfield 71, 3) := by decide +kernel
theorem dX7_edit_48 : decode cX7_edit 48 = .ok (.if_icmp .eq 13, 3) := by decide +kernel
theorem dX7_edit_51 : decode cX7_edit 51 = .ok (.new 96, 3) := by decide +kernel
theorem dX7_edit_54 : decode cX7_edit 54 = .ok (.dup, 1) := by decide +kernel
theorem dX7_edit_55 : decode cX7_edit 55 = .ok (.ldc 134, 2) := by decide +kernel
theorem dX7_edit_57 : decode cX7_edit 57 = .ok (.invokespecial 100, 3) := by decide +kernel
theorem dX7_edit_60 : decode cX7_edit 60 = .ok (.athrow, 1) := by decide +kernel
theorem dX7_edit_61 : decode cX7_edit 61 = .ok (.aload 4, 2) := by decide +kernel
theorem dX7_edit_63 : decode cX7_edit 63 = .ok (.dup, 1) := by decide +kernel
theorem dX7_edit_64 : decode cX7_edit 64 = .ok (.getfield 136, 3) := by decide +kernel
theorem dX7_edit_67 : decode cX7_edit 67 = .ok (.iconst 1, 1) := by decide +kernel
theorem dX7_edit_68 : decode cX7_edit 68 = .ok (.iadd, 1) := by decide +kernel
theorem dX7_edit_69 : decode cX7_edit 69 = .ok (.putfield 136, 3) := by decide +kernel
theorem dX7_edit_72 : decode cX7_edit 72 = .ok (.aload 4, 2) := by decide +kernel
theorem dX7_edit_74 : decode cX7_edit 74 = .ok (.getfield 139, 3) := by decide +kernel
theorem dX7_edit_77 : decode cX7_edit 77 = .ok (.invokevirtual 142, 3) := by decide +kernel
theorem dX7_edit_80 : decode cX7_edit 80 = .ok (.aload_n 0, 1) := by decide +kernel
theorem dX7_edit_81 : decode cX7_edit 81 = .ok (.getfield 40, 3) := by decide +kernel
theorem dX7_edit_84 : decode cX7_edit 84 = .ok (.iload_n 2, 1) := by decide +kernel
theorem dX7_edit_85 : decode cX7_edit 85 = .ok (.invokevirtual 145, 3) := by decide +kernel
theorem dX7_edit_88 : decode cX7_edit 88 = .ok (.aload_n 0, 1) := by decide +kernel
theorem dX7_edit_89 : decode cX7_edit 89 = .ok (.iload_n 2, 1) := by decide +kernel
theorem dX7_edit_90 : decode cX7_edit 90 = .ok (.invokevirtual 148, 3) := by decide +kernel
theorem dX7_edit_93 : decode cX7_edit 93 = .ok (.aload_n 0, 1) := by decide +kernel
theorem dX7_edit_94 : decode cX7_edit 94 = .ok (.invokevirtual 81, 3) := by decide +kernel
theorem dX7_edit_97 : decode cX7_edit 97 = .ok (.aload 4, 2) := by decide +kernel
theorem dX7_edit_99 : decode cX7_edit 99 = .ok (.getfield 136, 3) := by decide +kernel
theorem dX7_edit_102 : decode cX7_edit 102 = .ok (.ireturn, 1) := by decide +kernel
set_option maxHeartbeats 4000000 in
set_option maxRecDepth 100000 in
theorem c_X7_edit (l : Launch) (E : State) (G : kG) (S T : kSt) (o : Int64) (ad : kAd) (xu xm : Int32) (hE : kE l E G) (hS : okN S) (hL : okL S) (hK9 : okK S) (hlog : S.2 0 4 < 512) : vx_Met l yX7_edit (.code yX7_edit cX7_edit 5 (some .int) :: wsL_law) ({ frames := 14, cells := 20, slots := 400, locals := 400 } : Room) (va_Pc [.ref (ad 0 0), .int xu, .int xm] (kPre E G ad (cto G S T o ad))) (kQi E G (fun r ad1 ct1 => (cEdit S xu xm = 0 ∧ r = S.1 7 (cl xm) + 1) ∧ ad = ad1 ∧ ct1 = cto G (oEditC S xm) T o ad)) (kXC E G (fun x ad1 ct1 => ((cEdit S xu xm = 1 ∧ x = "java/lang/IndexOutOfBoundsException") ∨ (cEdit S xu xm = 2 ∧ x = "java/lang/IllegalStateException")) ∧ ad = ad1 ∧ ct1 = cto G S T o ad)) 20 400 (kB E.heap.size) := by
  refine vx_ofW (cc := cX7_edit) (maxL := 5) (ret := (some .int)) (by decide) rfl ?_
  intro p e s m args below meth c s₁ B hml hout hv
  obtain ⟨rfl, hM, hK, hW0⟩ := hv
  have hlocks := B.notSynchronized
  have hr := B.returns
  have Z : kZ p m c cX7_edit 5 s _ wsL_law RX7 E G := ⟨⟨B.exec, B.bytes, hml, findClass_of_methodNamed B.named, fun w h => atoms_spec (ws := .code yX7_edit cX7_edit 5 (some .int) :: wsL_law) B.pre w (List.mem_cons_of_mem _ h)⟩, hM, hK⟩
  have hx := Z.1.1
  have hb := Z.1.2.1
  have X := kX.of hW0
  have hl := lv_entry ([.ref (ad 0 0), .int xu, .int xm]) (n := 5) (Nat.le_of_ble_eq_true rfl)
  rw [lg_entry_eq]
  generalize (lg_sl ([.ref (ad 0 0), .int xu, .int xm]) ++ List.replicate (5 - (lg_sl ([.ref (ad 0 0), .int xu, .int xm])).length) Slot.unset).toArray = ls at hl ⊢
  have hl : lv_has ls 5 [(0, .ref (ad 0 0)), (1, .int xu), (2, .int xm)] := hl
  obtain ⟨hT1, hT2, hT3, hT4, hT5, hT6, hT7⟩ := id hS
  refine lv_aload_n hx hb dX7_edit_0 rfl (lv_at hl 0 rfl) ?_
  refine lv_iload_n hx hb dX7_edit_1 rfl (lv_at hl 1 rfl) ?_
  refine k_xRq X (k_xrunV (As := [.int xu]) (rest := []) Z X (c_X7_userAt l E G S T o ad xu hE hS hL) (k_cwV 1 Z.1.2.2.2.2 (inU_7 _ (List.mem_of_getElem? (i := 18) rfl)) (inU_7 _ (List.mem_of_getElem? (i := 19) rfl)) (inU_7 _ (List.mem_of_getElem? (i := 20) rfl)) (inU_1 _ (List.mem_of_getElem? (i := 2) rfl)) (inU_7 _ (List.mem_of_getElem? (i := 21) rfl)) rfl rfl (by decide +kernel) ⟨Nat.le_of_ble_eq_true rfl, Nat.le_of_ble_eq_true rfl⟩) (k_recv Z X ct_0 rfl) rfl hl.1 rfl (Nat.le_of_ble_eq_true rfl) dX7_edit_2 ⟨(Nat.le_of_ble_eq_true rfl), (Nat.le_of_ble_eq_true rfl)⟩) (fun x ce q9 ad1 ct1 H locs hp X x1 x2 x3 => ?_) (fun r_2 ad1 ct1 H locs hp X => ?_)
  · obtain ⟨⟨rfl, hq⟩, ha_, hb_⟩ := hp
    rw [← ha_, hb_] at X
    have hk : cEdit S xu xm = 1 := by simp [cEdit, hq]
    exact k_out hout hlocks X x1 x2 x3 ⟨Or.inl ⟨hk, rfl⟩, rfl, rfl⟩ (Nat.le_of_ble_eq_true rfl) (Nat.le_of_ble_eq_true rfl)
  obtain ⟨⟨ju, hju, rfl, rfl⟩, ha_, hb_⟩ := hp
  rw [← ha_, hb_] at X
  have q_u : inB (nI ju) (S.2 0 0) = true := inB_nI hju (by omega)
  have hcu : cl (nI ju) = ju := nI_clamp (by omega)
  refine lv_astore_n (lv' := [(3, .ref (ad 4 ju)), (0, .ref (ad 0 0)), (1, .int (nI ju)), (2, .int xm)]) hx hb dX7_edit_5 rfl hl (by decide) rfl (fun ls hl => ?_)
  refine lv_aload_n hx hb dX7_edit_6 rfl (lv_at hl 1 rfl) ?_
  refine lv_iload_n hx hb dX7_edit_7 rfl (lv_at hl 3 rfl) ?_
  refine k_xRq X (k_xrunV (As := [.int xm]) (rest := []) Z X (c_X7_messageAt l E G S T o ad xm hE hS hL) (k_cwV 1 Z.1.2.2.2.2 (inU_11 _ (List.mem_of_getElem? (i := 4) rfl)) (inU_11 _ (List.mem_of_getElem? (i := 5) rfl)) (inU_11 _ (List.mem_of_getElem? (i := 6) rfl)) (inU_1 _ (List.mem_of_getElem? (i := 2) rfl)) (inU_11 _ (List.mem_of_getElem? (i := 7) rfl)) rfl rfl (by decide +kernel) ⟨Nat.le_of_ble_eq_true rfl, Nat.le_of_ble_eq_true rfl⟩) (k_recv Z X ct_0 rfl) rfl hl.1 rfl (Nat.le_of_ble_eq_true rfl) dX7_edit_8 ⟨(Nat.le_of_ble_eq_true rfl), (Nat.le_of_ble_eq_true rfl)⟩) (fun x ce q9 ad1 ct1 H locs hp X x1 x2 x3 => ?_) (fun r_8 ad1 ct1 H locs hp X => ?_)
  · obtain ⟨⟨rfl, hq⟩, ha_, hb_⟩ := hp
    rw [← ha_, hb_] at X
    have hk : cEdit S (nI ju) xm = 1 := by simp [cEdit, q_u, hcu, hq]
    exact k_out hout hlocks X x1 x2 x3 ⟨Or.inl ⟨hk, rfl⟩, rfl, rfl⟩ (Nat.le_of_ble_eq_true rfl) (Nat.le_of_ble_eq_true rfl)
  obtain ⟨⟨jm, hjm, rfl, rfl⟩, ha_, hb_⟩ := hp
  rw [← ha_, hb_] at X
  have q_m : inB (nI jm) (S.2 0 1) = true := inB_nI hjm (by omega)
  have hcm : cl (nI jm) = jm := nI_clamp (by omega)
  have h5m := hT5 jm hjm
  refine lv_astore (lv' := [(4, .ref (ad 5 jm)), (3, .ref (ad 4 ju)), (0, .ref (ad 0 0)), (1, .int (nI ju)), (2, .int (nI jm))]) hx hb dX7_edit_11 hl (by decide) rfl (fun ls hl => ?_)
  refine lv_aload_n hx hb dX7_edit_13 rfl (lv_at hl 2 rfl) ?_
  refine lv_aload_n hx hb dX7_edit_14 rfl (lv_at hl 1 rfl) ?_
  refine k_xRv X (k_xrunV (As := [.ref (ad 4 ju)]) (rest := []) Z X (c_X7_refuseGone l E G S T o ad ju hE hju) (k_cwV 1 Z.1.2.2.2.2 (inU_11 _ (List.mem_of_getElem? (i := 13) rfl)) (inU_11 _ (List.mem_of_getElem? (i := 14) rfl)) (inU_11 _ (List.mem_of_getElem? (i := 15) rfl)) (inU_1 _ (List.mem_of_getElem? (i := 2) rfl)) (inU_11 _ (List.mem_of_getElem? (i := 16) rfl)) rfl rfl (by decide +kernel) ⟨Nat.le_of_ble_eq_true rfl, Nat.le_of_ble_eq_true rfl⟩) (k_recv Z X ct_0 rfl) rfl hl.1 rfl (Nat.le_of_ble_eq_true rfl) dX7_edit_15 ⟨(Nat.le_of_ble_eq_true rfl), (Nat.le_of_ble_eq_true rfl)⟩) (fun x ce q9 ad1 ct1 H locs hp X x1 x2 x3 => ?_) (fun ad1 ct1 H locs hp X => ?_)
  · obtain ⟨⟨rfl, hq⟩, ha_, hb_⟩ := hp
    rw [← ha_, hb_] at X
    have hk : cEdit S (nI ju) (nI jm) = 2 := by simp [cEdit, q_u, hcu, q_m, hcm, hq]
    exact k_out hout hlocks X x1 x2 x3 ⟨Or.inr ⟨hk, rfl⟩, rfl, rfl⟩ (Nat.le_of_ble_eq_true rfl) (Nat.le_of_ble_eq_true rfl)
  obtain ⟨q_g, ha_, hb_⟩ := hp
  rw [← ha_, hb_] at X
  refine lv_aload hx hb dX7_edit_18 (lv_at hl 0 rfl) ?_
  refine k_xRv X (k_xrunS (As := [.ref (ad 5 jm)]) (rest := []) Z X (c_X7_refuseArchived l E G S T o ad jm hE hjm) (k_cwS 1 Z.1.2.2.2.2 (inU_11 _ (List.mem_of_getElem? (i := 9) rfl)) (inU_11 _ (List.mem_of_getElem? (i := 10) rfl)) (inU_1 _ (List.mem_of_getElem? (i := 2) rfl)) (inU_11 _ (List.mem_of_getElem? (i := 11) rfl)) rfl rfl (by decide +kernel) ⟨Nat.le_of_ble_eq_true rfl, Nat.le_of_ble_eq_true rfl⟩) rfl hl.1 rfl (Nat.le_of_ble_eq_true rfl) dX7_edit_20 ⟨(Nat.le_of_ble_eq_true rfl), (Nat.le_of_ble_eq_true rfl)⟩) (fun x ce q9 ad1 ct1 H locs hp X x1 x2 x3 => ?_) (fun ad1 ct1 H locs hp X => ?_)
  · obtain ⟨⟨rfl, hq⟩, ha_, hb_⟩ := hp
    rw [← ha_, hb_] at X
    have hk : cEdit S (nI ju) (nI jm) = 2 := by simp [cEdit, q_u, hcu, q_m, hcm, q_g, hq]
    exact k_out hout hlocks X x1 x2 x3 ⟨Or.inr ⟨hk, rfl⟩, rfl, rfl⟩ (Nat.le_of_ble_eq_true rfl) (Nat.le_of_ble_eq_true rfl)
  obtain ⟨q_a, ha_, hb_⟩ := hp
  rw [← ha_, hb_] at X
  refine lv_aload_n hx hb dX7_edit_23 rfl (lv_at hl 2 rfl) ?_
  refine k_get (index := 40) (j := 5) (ad := ad) (k := 0) (i := 0) Z X ct_0 inlX7 rfl (by decide) (inU_2 _ (List.mem_of_getElem? (i := 5) rfl)) (fun _ h => h) (v := .ref (ad 12 0)) rfl dX7_edit_24 ?_
  refine k_get (index := 128) (j := 3) (ad := ad) (k := 12) (i := 0) Z X ct_12 inlX1 rfl (by decide) (inU_12 _ (List.mem_of_getElem? (i := 10) rfl)) (fun _ h => h) (v := .int (nI (S.2 0 4))) rfl dX7_edit_27 ?_
  refine lv_sipush (v := 512) hx hb dX7_edit_30 (by decide) ?_
  refine k_xRv X (k_xrunS (As := [.int (nI (S.2 0 4)), .int 512]) (rest := []) Z X (c_X7_refuseFull l E G S T o ad (S.2 0 4) 512 hE (by omega) (by decide)) (k_cwS 2 Z.1.2.2.2.2 (inU_7 _ (List.mem_of_getElem? (i := 1) rfl)) (inU_7 _ (List.mem_of_getElem? (i := 2) rfl)) (inU_1 _ (List.mem_of_getElem? (i := 2) rfl)) (inU_7 _ (List.mem_of_getElem? (i := 3) rfl)) rfl rfl (by decide +kernel) ⟨Nat.le_of_ble_eq_true rfl, Nat.le_of_ble_eq_true rfl⟩) rfl hl.1 rfl (Nat.le_of_ble_eq_true rfl) dX7_edit_33 ⟨(Nat.le_of_ble_eq_true rfl), (Nat.le_of_ble_eq_true rfl)⟩) (fun x ce q9 ad1 ct1 H locs hp X x1 x2 x3 => ?_) (fun ad1 ct1 H locs hp X => ?_)
  · obtain ⟨⟨rfl, hq⟩, ha_, hb_⟩ := hp
    rw [← ha_, hb_] at X
    exact absurd hlog hq
  obtain ⟨q_f, ha_, hb_⟩ := hp
  rw [← ha_, hb_] at X
  refine lv_aload hx hb dX7_edit_36 (lv_at hl 0 rfl) ?_
  refine k_get (index := 130) (j := 1) (ad := ad) (k := 5) (i := jm) Z X (ct_5 (by first | assumption | omega | decide)) inlX3 rfl (by decide) (inU_9 _ (List.mem_of_getElem? (i := 14) rfl)) (fun _ h => h) (v := .ref (ad 4 (S.2 1 jm))) rfl dX7_edit_38 ?_
  refine k_get (index := 71) (j := 0) (ad := ad) (k := 4) (i := (S.2 1 jm)) Z X (ct_4 h5m.1) inlX6 rfl (by decide) (inU_6 _ (List.mem_of_getElem? (i := 15) rfl)) (fun _ h => h) (v := .int (nI (S.2 1 jm))) rfl dX7_edit_41 ?_
  refine lv_aload_n hx hb dX7_edit_44 rfl (lv_at hl 1 rfl) ?_
  refine k_get (index := 71) (j := 0) (ad := ad) (k := 4) (i := ju) Z X (ct_4 (by first | assumption | omega | decide)) inlX6 rfl (by decide) (inU_6 _ (List.mem_of_getElem? (i := 15) rfl)) (fun _ h => h) (v := .int (nI ju)) rfl dX7_edit_45 ?_
  refine lv_icmp_eq (tgt := 61) hx hb dX7_edit_48 (by decide) (fun c_48 => ?_) (fun c_48 => ?_)
  · have c_48 : (S.2 1 jm) = ju := (nI_eq (a := (S.2 1 jm)) (b := ju) (by omega) (by omega)).mp c_48
    refine lv_aload hx hb dX7_edit_61 (lv_at hl 0 rfl) ?_
    refine lv_dup hx hb dX7_edit_63 rfl ?_
    refine k_get (index := 136) (j := 6) (ad := ad) (k := 5) (i := jm) Z X (ct_5 (by first | assumption | omega | decide)) inlX3 rfl (by decide) (inU_9 _ (List.mem_of_getElem? (i := 7) rfl)) (fun _ h => h) (v := .int (S.1 7 jm)) rfl dX7_edit_64 ?_
    refine lv_iconst (v := 1) hx hb dX7_edit_67 (by decide) ?_
    refine lv_iadd hx hb dX7_edit_68 ?_
    refine k_put (index := 136) (j := 6) (k := 5) (i := jm) Z X (ct_5 (by first | assumption | omega | decide)) inlX3 tyX3_ok nmX3 rfl (by decide) (inU_9 _ (List.mem_of_getElem? (i := 7) rfl)) (fun _ h => h) rfl (Nat.le_of_ble_eq_true rfl) rfl rfl dX7_edit_69 (fun H locs X => ?_)
    have X : kX E G s H locs ad (cto G (sI S 7 jm ((S.1 7 jm) + 1)) T o ad) := X.eq (cs_version _ _ hjm)
    refine lv_aload hx hb dX7_edit_72 (lv_at hl 0 rfl) ?_
    refine k_get (index := 139) (j := 5) (ad := ad) (k := 5) (i := jm) Z X (ct_5 (by first | assumption | omega | decide)) inlX3 rfl (by decide) (inU_9 _ (List.mem_of_getElem? (i := 9) rfl)) (fun _ h => h) (v := .ref (ad 6 jm)) rfl dX7_edit_74 ?_
    refine k_Rv X (k_runV (As := []) (rest := []) Z X (c_X2_clear l E G ad (cto G (sI S 7 jm (S.1 7 jm + 1)) T o ad) 6 jm 7 jm ((sI S 7 jm (S.1 7 jm + 1)).1 (100 + jm)) (ct_6 hjm) (ct_7 hjm)) (k_cwV 0 Z.1.2.2.2.2 (inU_12 _ (List.mem_of_getElem? (i := 11) rfl)) (inU_12 _ (List.mem_of_getElem? (i := 12) rfl)) (inU_12 _ (List.mem_of_getElem? (i := 13) rfl)) (inU_2 _ (List.mem_of_getElem? (i := 8) rfl)) (inU_12 _ (List.mem_of_getElem? (i := 14) rfl)) rfl rfl (by decide +kernel) ⟨Nat.le_of_ble_eq_true rfl, Nat.le_of_ble_eq_true rfl⟩) (k_recv Z X (ct_6 (by first | assumption | omega | decide)) rfl) rfl hl.1 rfl (Nat.le_of_ble_eq_true rfl) dX7_edit_77 ⟨(by first | exact Nat.le_of_ble_eq_true rfl | (show _ ≤ (_ : Nat); simp only [headSpec]; omega)), (by first | exact Nat.le_of_ble_eq_true rfl | (show _ ≤ (_ : Nat); simp only [headSpec]; omega))⟩) (fun ad1 ct1 H locs hp X => ?_)
    obtain ⟨ha_, hb_⟩ := hp
    rw [← ha_, hb_] at X
    have X : kX E G s H locs ad (cto G (sR (sI S 7 jm (S.1 7 jm + 1)) (100 + jm) 0 12 (-1)) T o ad) := X.eq (cs_mclr _ _ hjm)
    refine lv_aload_n hx hb dX7_edit_80 rfl (lv_at hl 2 rfl) ?_
    refine k_get (index := 40) (j := 5) (ad := ad) (k := 0) (i := 0) Z X ct_0 inlX7 rfl (by decide) (inU_2 _ (List.mem_of_getElem? (i := 5) rfl)) (fun _ h => h) (v := .ref (ad 12 0)) rfl dX7_edit_81 ?_
    refine lv_iload_n hx hb dX7_edit_84 rfl (lv_at hl 4 rfl) ?_
    refine k_Rv X (k_runV (As := [.int (nI jm)]) (rest := []) Z X (c_X1_writeEdit l E G (sR (sI S 7 jm (S.1 7 jm + 1)) (100 + jm) 0 12 (-1)) T o ad (nI jm) hlog) (k_cwV 1 Z.1.2.2.2.2 (inU_12 _ (List.mem_of_getElem? (i := 15) rfl)) (inU_12 _ (List.mem_of_getElem? (i := 16) rfl)) (inU_12 _ (List.mem_of_getElem? (i := 17) rfl)) (inU_2 _ (List.mem_of_getElem? (i := 4) rfl)) (inU_12 _ (List.mem_of_getElem? (i := 18) rfl)) rfl rfl (by decide +kernel) ⟨Nat.le_of_ble_eq_true rfl, Nat.le_of_ble_eq_true rfl⟩) (k_recv Z X ct_12 rfl) rfl hl.1 rfl (Nat.le_of_ble_eq_true rfl) dX7_edit_85 ⟨(by first | exact Nat.le_of_ble_eq_true rfl | (show _ ≤ (_ : Nat); simp only [headSpec]; omega)), (by first | exact Nat.le_of_ble_eq_true rfl | (show _ ≤ (_ : Nat); simp only [headSpec]; omega))⟩) (fun ad1 ct1 H locs hp X => ?_)
    obtain ⟨ha_, hb_⟩ := hp
    rw [← ha_, hb_] at X
    have X : kX E G s H locs ad (cto G (lgE (sR (sI S 7 jm (S.1 7 jm + 1)) (100 + jm) 0 12 (-1)) (nI jm) (-1) 2) T o ad) := X
    refine lv_aload_n hx hb dX7_edit_88 rfl (lv_at hl 2 rfl) ?_
    refine lv_iload_n hx hb dX7_edit_89 rfl (lv_at hl 4 rfl) ?_
    refine k_Rv X (k_runV (As := [.int (nI jm)]) (rest := []) Z X (c_X7_dropTasksOf l E G (lgE (sR (sI S 7 jm (S.1 7 jm + 1)) (100 + jm) 0 12 (-1)) (nI jm) (-1) 2) T o ad jm (by omega) (okN_lg (okN_c rfl hS)) (okL_lg (okL_c rfl hL))) (k_cwV 1 Z.1.2.2.2.2 (inU_13 _ (List.mem_of_getElem? (i := 0) rfl)) (inU_13 _ (List.mem_of_getElem? (i := 1) rfl)) (inU_13 _ (List.mem_of_getElem? (i := 2) rfl)) (inU_1 _ (List.mem_of_getElem? (i := 2) rfl)) (inU_13 _ (List.mem_of_getElem? (i := 3) rfl)) rfl rfl (by decide +kernel) ⟨Nat.le_of_ble_eq_true rfl, Nat.le_of_ble_eq_true rfl⟩) (k_recv Z X ct_0 rfl) rfl hl.1 rfl (Nat.le_of_ble_eq_true rfl) dX7_edit_90 ⟨(by first | exact Nat.le_of_ble_eq_true rfl | (show _ ≤ (_ : Nat); simp only [headSpec]; omega)), (by first | exact Nat.le_of_ble_eq_true rfl | (show _ ≤ (_ : Nat); simp only [headSpec]; omega))⟩) (fun ad1 ct1 H locs hp X => ?_)
    obtain ⟨ha_, hb_⟩ := hp
    rw [← ha_, hb_] at X
    rw [show (lgE (sR (sI S 7 jm (S.1 7 jm + 1)) (100 + jm) 0 12 (-1)) (nI jm) (-1) 2).2 0 3 = S.2 0 3 from lgE_2 (by decide)] at X
    have e4 : (drp (lgE (sR (sI S 7 jm (S.1 7 jm + 1)) (100 + jm) 0 12 (-1)) (nI jm) (-1) 2) jm (S.2 0 3)) = oEdC S (nI jm) := by rw [oEdC, oEd1, hcm]
    have k2 := (drp_r (lgE (sR (sI S 7 jm (S.1 7 jm + 1)) (100 + jm) 0 12 (-1)) (nI jm) (-1) 2) jm (S.2 0 3)).1
    have k7 : (drp (lgE (sR (sI S 7 jm (S.1 7 jm + 1)) (100 + jm) 0 12 (-1)) (nI jm) (-1) 2) jm (S.2 0 3)).1 7 jm = S.1 7 jm + 1 := by rw [(drp_r _ _ _).2.1 7 jm (by decide), lgE_1 (by decide), sR_fn (by omega)]; exact sI_s
    have hN4 : okN (drp (lgE (sR (sI S 7 jm (S.1 7 jm + 1)) (100 + jm) 0 12 (-1)) (nI jm) (-1) 2) jm (S.2 0 3)) := okN_c (drp_r _ _ _).1 (okN_lg (okN_c rfl hS))
    have hL4 : okL (drp (lgE (sR (sI S 7 jm (S.1 7 jm + 1)) (100 + jm) 0 12 (-1)) (nI jm) (-1) 2) jm (S.2 0 3)) := okL_c (drp_r _ _ _).1 (okL_lg (okL_c rfl hL))
    have hK4 : okK (drp (lgE (sR (sI S 7 jm (S.1 7 jm + 1)) (100 + jm) 0 12 (-1)) (nI jm) (-1) 2) jm (S.2 0 3)) := okK_drp (okK_lg (by have h := okK_ed (m := nI jm) hK9; rw [oEd1, hcm] at h; exact h))
    have k02 : (drp (lgE (sR (sI S 7 jm (S.1 7 jm + 1)) (100 + jm) 0 12 (-1)) (nI jm) (-1) 2) jm (S.2 0 3)).2 0 2 = S.2 0 2 := by rw [k2]; exact lgE_2 (by decide)
    have k01 : (drp (lgE (sR (sI S 7 jm (S.1 7 jm + 1)) (100 + jm) 0 12 (-1)) (nI jm) (-1) 2) jm (S.2 0 3)).2 0 1 = S.2 0 1 := by rw [k2]; exact lgE_2 (by decide)
    clear k2
    generalize (drp (lgE (sR (sI S 7 jm (S.1 7 jm + 1)) (100 + jm) 0 12 (-1)) (nI jm) (-1) 2) jm (S.2 0 3)) = S4 at X e4 k7 hN4 hL4 hK4 k02 k01
    refine lv_aload_n hx hb dX7_edit_93 rfl (lv_at hl 2 rfl) ?_
    refine k_Rv X (k_runV (As := []) (rest := []) Z X (c_X7_takeSpendsBack l E G S4 T o ad hN4 hL4 hK4) (k_cwV 0 Z.1.2.2.2.2 (inU_8 _ (List.mem_of_getElem? (i := 17) rfl)) (inU_8 _ (List.mem_of_getElem? (i := 18) rfl)) (inU_8 _ (List.mem_of_getElem? (i := 19) rfl)) (inU_1 _ (List.mem_of_getElem? (i := 2) rfl)) (inU_8 _ (List.mem_of_getElem? (i := 20) rfl)) rfl rfl (by decide +kernel) ⟨Nat.le_of_ble_eq_true rfl, Nat.le_of_ble_eq_true rfl⟩) (k_recv Z X ct_0 rfl) rfl hl.1 rfl (Nat.le_of_ble_eq_true rfl) dX7_edit_94 ⟨(by first | exact Nat.le_of_ble_eq_true rfl | (show _ ≤ (_ : Nat); simp only [headSpec]; omega)), (by first | exact Nat.le_of_ble_eq_true rfl | (show _ ≤ (_ : Nat); simp only [headSpec]; omega))⟩) (fun ad1 ct1 H locs hp X => ?_)
    obtain ⟨ha_, hb_⟩ := hp
    rw [← ha_, hb_] at X
    refine lv_aload hx hb dX7_edit_97 (lv_at hl 0 rfl) ?_
    refine k_get (index := 136) (j := 6) (ad := ad) (k := 5) (i := jm) Z X (ct_5 (show jm < (stl _ _ _).2 0 1 by rw [(stl_r _ _ _).1, k01]; exact hjm)) inlX3 rfl (by decide) (inU_9 _ (List.mem_of_getElem? (i := 7) rfl)) (fun _ h => h) (v := .int ((stl S4 (kdS S4) (S4.2 0 2)).1 7 jm)) rfl dX7_edit_99 ?_
    refine lv_topi (fun x_99 e_99 => ?_)
    obtain rfl : x_99 = S.1 7 jm + 1 := e_99.trans (((stl_r _ _ _).2.1 7 _ (by decide) (by decide)).trans k7)
    have hk : cEdit S (nI ju) (nI jm) = 0 := by simp [cEdit, q_u, hcu, q_m, hcm, q_g, q_a, q_f, c_48]
    exact vx_ret (k_iret Z X hr hlocks rfl (Nat.le_of_ble_eq_true rfl) (Nat.le_of_ble_eq_true rfl) dX7_edit_102 ⟨⟨hk, by rw [hcm]⟩, rfl, by rw [oEditC, ← e4, k02]⟩)
  · have c_48 : ¬ (S.2 1 jm) = ju := fun h => c_48 ((nI_eq (a := (S.2 1 jm)) (b := ju) (by omega) (by omega)).mpr h)
    have hk : cEdit S (nI ju) (nI jm) = 2 := by simp [cEdit, q_u, hcu, q_m, hcm, q_g, q_a, q_f, c_48]
    exact k_throwS hE Z X hout hlocks hl.1 kThr_ISE (inU_7 _ (List.mem_of_getElem? (i := 4) rfl)) (inU_7 _ (List.mem_of_getElem? (i := 5) rfl)) (text := "the user is not the author") (List.mem_of_getElem? (i := 2) rfl) dX7_edit_51 dX7_edit_54 dX7_edit_55 dX7_edit_57 dX7_edit_60 (Nat.le_of_ble_eq_true rfl) ⟨(Nat.le_of_ble_eq_true rfl), (Nat.le_of_ble_eq_true rfl), (Nat.le_of_ble_eq_true rfl), (Nat.le_of_ble_eq_true rfl)⟩ ⟨(Nat.le_of_ble_eq_true rfl), (Nat.le_of_ble_eq_true rfl)⟩ ⟨(Nat.le_of_ble_eq_true rfl), (Nat.le_of_ble_eq_true rfl)⟩ ⟨Or.inr ⟨hk, rfl⟩, rfl, rfl⟩
theorem dX7_mark_0 : decode cX7_mark 0 = .ok (.aload_n 0, 1) := by decide +kernel
theorem dX7_mark_1 : decode cX7_mark 1 = .ok (.iload_n 1, 1) := by decide +kernel
theorem dX7_mark_2 : decode cX7_mark 2 = .ok (.invokevirtual 74, 3) := by decide +kernel
theorem dX7_mark_5 : decode cX7_mark 5 = .ok (.astore 4, 2) := by decide +kernel
theorem dX7_mark_7 : decode cX7_mark 7 = .ok (.aload_n 0, 1) := by decide +kernel
theorem dX7_mark_8 : decode cX7_mark 8 = .ok (.iload_n 2, 1) := by decide +kernel
theorem dX7_mark_9 : decode cX7_mark 9 = .ok (.invokevirtual 103, 3) := by decide +kernel
theorem dX7_mark_12 : decode cX7_mark 12 = .ok (.astore 5, 2) := by decide +kernel
theorem dX7_mark_14 : decode cX7_mark 14 = .ok (.iload_n 3, 1) := by decide +kernel
theorem dX7_mark_15 : decode cX7_mark 15 = .ok (.iconst (-1), 1) := by decide +kernel
theorem dX7_mark_16 : decode cX7_mark 16 = .ok (.iconst 1, 1) := by decide +kernel
theorem dX7_mark_17 : decode cX7_mark 17 = .ok (.invokestatic 55, 3) := by decide +kernel
theorem dX7_mark_20 : decode cX7_mark 20 = .ok (.aload_n 0, 1) := by decide +kernel
theorem dX7_mark_21 : decode cX7_mark 21 = .ok (.aload 4, 2) := by decide +kernel
theorem dX7_mark_23 : decode cX7_mark 23 = .ok (.invokevirtual 120, 3) := by decide +kernel
theorem dX7_mark_26 : decode cX7_mark 26 = .ok (.aload 5, 2) := by decide +kernel
theorem dX7_mark_28 : decode cX7_mark 28 = .ok (.invokestatic 107, 3) := by decide +kernel
theorem dX7_mark_31 : decode cX7_mark 31 = .ok (.aload_n 0, 1) := by decide +kernel
theorem dX7_mark_32 : decode cX7_mark 32 = .ok (.getfield 40, 3) := by decide +kernel
theorem dX7_mark_35 : decode cX7_mark 35 = .ok (.getfield 128, 3) := by decide +kernel
theorem dX7_mark_38 : decode cX7_mark 38 = .ok (.sipush 512, 3) := by decide +kernel
theorem dX7_mark_41 : decode cX7_mark 41 = .ok (.invokestatic 63, 3) := by decide +kernel
theorem dX7_mark_44 : decode cX7_mark 44 = .ok (.iload_n 3, 1) := by decide +kernel
theorem dX7_mark_45 : decode cX7_mark 45 = .ok (.iconst (-1), 1) := by decide +kernel
theorem dX7_mark_46 : decode cX7_mark 46 = .ok (.if_icmp .ne 26, 3) := by decide +kernel
theorem dX7_mark_49 : decode cX7_mark 49 = .ok (.aload 5, 2) := by decide +kernel
theorem dX7_mark_51 : decode cX7_mark 51 = .ok (.getfield 139, 3) := by decide +kernel
theorem dX7_mark_54 : decode cX7_mark 54 = .ok (.iload_n 1, 1) := by decide +kernel
theorem dX7_mark_55 : decode cX7_mark 55 = .ok (.invokevirtual 151, 3) := by decide +kernel
theorem dX7_mark_58 : decode cX7_mark 58 = .ok (.iconst (-1), 1) := by decide +kernel
theorem dX7_mark_59 : decode cX7_mark 59 = .ok (.if_icmp .ne 13, 3) := by decide +kernel
theorem dX7_mark_62 : decode cX7_mark 62 = .ok (.new 96, 3) := by decide +kernel
theorem dX7_mark_65 : decode cX7_mark 65 = .ok (.dup, 1) := by decide +kernel
theorem dX7_mark_66 : decode cX7_mark 66 = .ok (.ldc 155, 2) := by decide +kernel
theorem dX7_mark_68 : decode cX7_mark 68 = .ok (.invokespecial 100, 3) := by decide +kernel
theorem dX7_mark_71 : decode cX7_mark 71 = .ok (.athrow, 1) := by decide +kernel
theorem dX7_mark_72 : decode cX7_mark 72 = .ok (.aload 5, 2) := by decide +kernel
theorem dX7_mark_74 : decode cX7_mark 74 = .ok (.getfield 139, 3) := by decide +kernel
theorem dX7_mark_77 : decode cX7_mark 77 = .ok (.iload_n 1, 1) := by decide +kernel
theorem dX7_mark_78 : decode cX7_mark 78 = .ok (.iload_n 3, 1) := by decide +kernel
theorem dX7_mark_79 : decode cX7_mark 79 = .ok (.invokevirtual 157, 3) := by decide +kernel
theorem dX7_mark_82 : decode cX7_mark 82 = .ok (.aload_n 0, 1) := by decide +kernel
theorem dX7_mark_83 : decode cX7_mark 83 = .ok (.getfield 40, 3) := by decide +kernel
theorem dX7_mark_86 : decode cX7_mark 86 = .ok (.iload_n 2, 1) := by decide +kernel
theorem dX7_mark_87 : decode cX7_mark 87 = .ok (.iload_n 1, 1) := by decide +kernel
theorem dX7_mark_88 : decode cX7_mark 88 = .ok (.iload_n 3, 1) := by decide +kernel
theorem dX7_mark_89 : decode cX7_mark 89 = .ok (.invokevirtual 160, 3) := by decide +kernel
theorem dX7_mark_92 : decode cX7_mark 92 = .ok (.aload_n 0, 1) := by decide +kernel
theorem dX7_mark_93 : decode cX7_mark 93 = .ok (.invokevirtual 81, 3) := by decide +kernel
theorem dX7_mark_96 : decode cX7_mark 96 = .ok (.aload_n 0, 1) := by decide +kernel
theorem dX7_mark_97 : decode cX7_mark 97 = .ok (.aload 5, 2) := by decide +kernel
theorem dX7_mark_99 : decode cX7_mark 99 = .ok (.getfield 139, 3) := by decide +kernel
theorem dX7_mark_102 : decode cX7_mark 102 = .ok (.invokevirtual 163, 3) := by decide +kernel
theorem dX7_mark_105 : decode cX7_mark 105 = .ok (.ireturn, 1) := by decide +kernel
set_option maxHeartbeats 4000000 in
set_option maxRecDepth 100000 in
theorem c_X7_mark (l : Launch) (E : State) (G : kG) (S T : kSt) (o : Int64) (ad : kAd) (xu xm xk : Int32) (hE : kE l E G) (hS : okN S) (hL : okL S) (hK9 : okK S) (hlog : S.2 0 4 < 512) : vx_Met l yX7_mark (.code yX7_mark cX7_mark 6 (some .int) :: wsL_law) ({ frames := 14, cells := 20, slots := 400, locals := 400 } : Room) (va_Pc [.ref (ad 0 0), .int xu, .int xm, .int xk] (kPre E G ad (cto G S T o ad))) (kQi E G (fun r ad1 ct1 => (cMark S (kdS S) xu xm xk = 0 ∧ r = nI (cntN (oMarkC S xu xm xk) (kdS (oMarkC S xu xm xk) (cl xm)) (S.2 0 0))) ∧ ad = ad1 ∧ ct1 = cto G (oMarkC S xu xm xk) T o ad)) (kXC E G (fun x ad1 ct1 => ((cMark S (kdS S) xu xm xk = 1 ∧ x = "java/lang/IndexOutOfBoundsException") ∨ (cMark S (kdS S) xu xm xk = 2 ∧ x = "java/lang/IllegalArgumentException") ∨ (cMark S (kdS S) xu xm xk = 3 ∧ x = "java/lang/IllegalStateException")) ∧ ad = ad1 ∧ ct1 = cto G S T o ad)) 20 400 (kB E.heap.size) := by
  refine vx_ofW (cc := cX7_mark) (maxL := 6) (ret := (some .int)) (by decide) rfl ?_
  intro p e s m args below meth c s₁ B hml hout hv
  obtain ⟨rfl, hM, hK, hW0⟩ := hv
  have hlocks := B.notSynchronized
  have hr := B.returns
  have Z : kZ p m c cX7_mark 6 s _ wsL_law RX7 E G := ⟨⟨B.exec, B.bytes, hml, findClass_of_methodNamed B.named, fun w h => atoms_spec (ws := .code yX7_mark cX7_mark 6 (some .int) :: wsL_law) B.pre w (List.mem_cons_of_mem _ h)⟩, hM, hK⟩
  have hx := Z.1.1
  have hb := Z.1.2.1
  have X := kX.of hW0
  have hl := lv_entry ([.ref (ad 0 0), .int xu, .int xm, .int xk]) (n := 6) (Nat.le_of_ble_eq_true rfl)
  rw [lg_entry_eq]
  generalize (lg_sl ([.ref (ad 0 0), .int xu, .int xm, .int xk]) ++ List.replicate (6 - (lg_sl ([.ref (ad 0 0), .int xu, .int xm, .int xk])).length) Slot.unset).toArray = ls at hl ⊢
  have hl : lv_has ls 6 [(0, .ref (ad 0 0)), (1, .int xu), (2, .int xm), (3, .int xk)] := hl
  obtain ⟨hT1, hT2, hT3, hT4, hT5, hT6, hT7⟩ := id hS
  refine lv_aload_n hx hb dX7_mark_0 rfl (lv_at hl 0 rfl) ?_
  refine lv_iload_n hx hb dX7_mark_1 rfl (lv_at hl 1 rfl) ?_
  refine k_xRq X (k_xrunV (As := [.int xu]) (rest := []) Z X (c_X7_userAt l E G S T o ad xu hE hS hL) (k_cwV 1 Z.1.2.2.2.2 (inU_7 _ (List.mem_of_getElem? (i := 18) rfl)) (inU_7 _ (List.mem_of_getElem? (i := 19) rfl)) (inU_7 _ (List.mem_of_getElem? (i := 20) rfl)) (inU_1 _ (List.mem_of_getElem? (i := 2) rfl)) (inU_7 _ (List.mem_of_getElem? (i := 21) rfl)) rfl rfl (by decide +kernel) ⟨Nat.le_of_ble_eq_true rfl, Nat.le_of_ble_eq_true rfl⟩) (k_recv Z X ct_0 rfl) rfl hl.1 rfl (Nat.le_of_ble_eq_true rfl) dX7_mark_2 ⟨(Nat.le_of_ble_eq_true rfl), (Nat.le_of_ble_eq_true rfl)⟩) (fun x ce q9 ad1 ct1 H locs hp X x1 x2 x3 => ?_) (fun r_2 ad1 ct1 H locs hp X => ?_)
  · obtain ⟨⟨rfl, hq⟩, ha_, hb_⟩ := hp
    rw [← ha_, hb_] at X
    have hk : cMark S (kdS S) xu xm xk = 1 := by simp [cMark, (show inR (-1) (-1) 1 = true from by decide), hq]
    exact k_out hout hlocks X x1 x2 x3 ⟨Or.inl ⟨hk, rfl⟩, rfl, rfl⟩ (Nat.le_of_ble_eq_true rfl) (Nat.le_of_ble_eq_true rfl)
  obtain ⟨⟨ju, hju, rfl, rfl⟩, ha_, hb_⟩ := hp
  rw [← ha_, hb_] at X
  have q_u : inB (nI ju) (S.2 0 0) = true := inB_nI hju (by omega)
  have hcu : cl (nI ju) = ju := nI_clamp (by omega)
  refine lv_astore (lv' := [(4, .ref (ad 4 ju)), (0, .ref (ad 0 0)), (1, .int (nI ju)), (2, .int xm), (3, .int xk)]) hx hb dX7_mark_5 hl (by decide) rfl (fun ls hl => ?_)
  refine lv_aload_n hx hb dX7_mark_7 rfl (lv_at hl 1 rfl) ?_
  refine lv_iload_n hx hb dX7_mark_8 rfl (lv_at hl 3 rfl) ?_
  refine k_xRq X (k_xrunV (As := [.int xm]) (rest := []) Z X (c_X7_messageAt l E G S T o ad xm hE hS hL) (k_cwV 1 Z.1.2.2.2.2 (inU_11 _ (List.mem_of_getElem? (i := 4) rfl)) (inU_11 _ (List.mem_of_getElem? (i := 5) rfl)) (inU_11 _ (List.mem_of_getElem? (i := 6) rfl)) (inU_1 _ (List.mem_of_getElem? (i := 2) rfl)) (inU_11 _ (List.mem_of_getElem? (i := 7) rfl)) rfl rfl (by decide +kernel) ⟨Nat.le_of_ble_eq_true rfl, Nat.le_of_ble_eq_true rfl⟩) (k_recv Z X ct_0 rfl) rfl hl.1 rfl (Nat.le_of_ble_eq_true rfl) dX7_mark_9 ⟨(Nat.le_of_ble_eq_true rfl), (Nat.le_of_ble_eq_true rfl)⟩) (fun x ce q9 ad1 ct1 H locs hp X x1 x2 x3 => ?_) (fun r_9 ad1 ct1 H locs hp X => ?_)
  · obtain ⟨⟨rfl, hq⟩, ha_, hb_⟩ := hp
    rw [← ha_, hb_] at X
    have hk : cMark S (kdS S) (nI ju) xm xk = 1 := by simp [cMark, (show inR (-1) (-1) 1 = true from by decide), q_u, hcu, hq]
    exact k_out hout hlocks X x1 x2 x3 ⟨Or.inl ⟨hk, rfl⟩, rfl, rfl⟩ (Nat.le_of_ble_eq_true rfl) (Nat.le_of_ble_eq_true rfl)
  obtain ⟨⟨jm, hjm, rfl, rfl⟩, ha_, hb_⟩ := hp
  rw [← ha_, hb_] at X
  have q_m : inB (nI jm) (S.2 0 1) = true := inB_nI hjm (by omega)
  have hcm : cl (nI jm) = jm := nI_clamp (by omega)
  have h5m := hT5 jm hjm
  refine lv_astore (lv' := [(5, .ref (ad 5 jm)), (4, .ref (ad 4 ju)), (0, .ref (ad 0 0)), (1, .int (nI ju)), (2, .int (nI jm)), (3, .int xk)]) hx hb dX7_mark_12 hl (by decide) rfl (fun ls hl => ?_)
  refine lv_iload_n hx hb dX7_mark_14 rfl (lv_at hl 5 rfl) ?_
  refine lv_iconst (v := (-1)) hx hb dX7_mark_15 (by decide) ?_
  refine lv_iconst (v := 1) hx hb dX7_mark_16 (by decide) ?_
  refine k_xRv X (k_xrunS (As := [.int xk, .int (-1), .int 1]) (rest := []) Z X (c_X7_checkRange l E G S T o ad xk (-1) 1 hE) (k_cwS 3 Z.1.2.2.2.2 (inU_6 _ (List.mem_of_getElem? (i := 16) rfl)) (inU_6 _ (List.mem_of_getElem? (i := 17) rfl)) (inU_1 _ (List.mem_of_getElem? (i := 2) rfl)) (inU_6 _ (List.mem_of_getElem? (i := 18) rfl)) rfl rfl (by decide +kernel) ⟨Nat.le_of_ble_eq_true rfl, Nat.le_of_ble_eq_true rfl⟩) rfl hl.1 rfl (Nat.le_of_ble_eq_true rfl) dX7_mark_17 ⟨(Nat.le_of_ble_eq_true rfl), (Nat.le_of_ble_eq_true rfl)⟩) (fun x ce q9 ad1 ct1 H locs hp X x1 x2 x3 => ?_) (fun ad1 ct1 H locs hp X => ?_)
  · obtain ⟨⟨rfl, hq⟩, ha_, hb_⟩ := hp
    rw [← ha_, hb_] at X
    have hk : cMark S (kdS S) (nI ju) (nI jm) xk = 2 := by simp [cMark, (show inR (-1) (-1) 1 = true from by decide), q_u, hcu, q_m, hcm, hq]
    exact k_out hout hlocks X x1 x2 x3 ⟨Or.inr (Or.inl ⟨hk, rfl⟩), rfl, rfl⟩ (Nat.le_of_ble_eq_true rfl) (Nat.le_of_ble_eq_true rfl)
  obtain ⟨q_r, ha_, hb_⟩ := hp
  rw [← ha_, hb_] at X
  refine lv_aload_n hx hb dX7_mark_20 rfl (lv_at hl 2 rfl) ?_
  refine lv_aload hx hb dX7_mark_21 (lv_at hl 1 rfl) ?_
  refine k_xRv X (k_xrunV (As := [.ref (ad 4 ju)]) (rest := []) Z X (c_X7_refuseGone l E G S T o ad ju hE hju) (k_cwV 1 Z.1.2.2.2.2 (inU_11 _ (List.mem_of_getElem? (i := 13) rfl)) (inU_11 _ (List.mem_of_getElem? (i := 14) rfl)) (inU_11 _ (List.mem_of_getElem? (i := 15) rfl)) (inU_1 _ (List.mem_of_getElem? (i := 2) rfl)) (inU_11 _ (List.mem_of_getElem? (i := 16) rfl)) rfl rfl (by decide +kernel) ⟨Nat.le_of_ble_eq_true rfl, Nat.le_of_ble_eq_true rfl⟩) (k_recv Z X ct_0 rfl) rfl hl.1 rfl (Nat.le_of_ble_eq_true rfl) dX7_mark_23 ⟨(Nat.le_of_ble_eq_true rfl), (Nat.le_of_ble_eq_true rfl)⟩) (fun x ce q9 ad1 ct1 H locs hp X x1 x2 x3 => ?_) (fun ad1 ct1 H locs hp X => ?_)
  · obtain ⟨⟨rfl, hq⟩, ha_, hb_⟩ := hp
    rw [← ha_, hb_] at X
    have hk : cMark S (kdS S) (nI ju) (nI jm) xk = 3 := by simp [cMark, (show inR (-1) (-1) 1 = true from by decide), q_u, hcu, q_m, hcm, q_r, hq]
    exact k_out hout hlocks X x1 x2 x3 ⟨Or.inr (Or.inr ⟨hk, rfl⟩), rfl, rfl⟩ (Nat.le_of_ble_eq_true rfl) (Nat.le_of_ble_eq_true rfl)
  obtain ⟨q_g, ha_, hb_⟩ := hp
  rw [← ha_, hb_] at X
  refine lv_aload hx hb dX7_mark_26 (lv_at hl 0 rfl) ?_
  refine k_xRv X (k_xrunS (As := [.ref (ad 5 jm)]) (rest := []) Z X (c_X7_refuseArchived l E G S T o ad jm hE hjm) (k_cwS 1 Z.1.2.2.2.2 (inU_11 _ (List.mem_of_getElem? (i := 9) rfl)) (inU_11 _ (List.mem_of_getElem? (i := 10) rfl)) (inU_1 _ (List.mem_of_getElem? (i := 2) rfl)) (inU_11 _ (List.mem_of_getElem? (i := 11) rfl)) rfl rfl (by decide +kernel) ⟨Nat.le_of_ble_eq_true rfl, Nat.le_of_ble_eq_true rfl⟩) rfl hl.1 rfl (Nat.le_of_ble_eq_true rfl) dX7_mark_28 ⟨(Nat.le_of_ble_eq_true rfl), (Nat.le_of_ble_eq_true rfl)⟩) (fun x ce q9 ad1 ct1 H locs hp X x1 x2 x3 => ?_) (fun ad1 ct1 H locs hp X => ?_)
  · obtain ⟨⟨rfl, hq⟩, ha_, hb_⟩ := hp
    rw [← ha_, hb_] at X
    have hk : cMark S (kdS S) (nI ju) (nI jm) xk = 3 := by simp [cMark, (show inR (-1) (-1) 1 = true from by decide), q_u, hcu, q_m, hcm, q_r, q_g, hq]
    exact k_out hout hlocks X x1 x2 x3 ⟨Or.inr (Or.inr ⟨hk, rfl⟩), rfl, rfl⟩ (Nat.le_of_ble_eq_true rfl) (Nat.le_of_ble_eq_true rfl)
  obtain ⟨q_a, ha_, hb_⟩ := hp
  rw [← ha_, hb_] at X
  refine lv_aload_n hx hb dX7_mark_31 rfl (lv_at hl 2 rfl) ?_
  refine k_get (index := 40) (j := 5) (ad := ad) (k := 0) (i := 0) Z X ct_0 inlX7 rfl (by decide) (inU_2 _ (List.mem_of_getElem? (i := 5) rfl)) (fun _ h => h) (v := .ref (ad 12 0)) rfl dX7_mark_32 ?_
  refine k_get (index := 128) (j := 3) (ad := ad) (k := 12) (i := 0) Z X ct_12 inlX1 rfl (by decide) (inU_12 _ (List.mem_of_getElem? (i := 10) rfl)) (fun _ h => h) (v := .int (nI (S.2 0 4))) rfl dX7_mark_35 ?_
  refine lv_sipush (v := 512) hx hb dX7_mark_38 (by decide) ?_
  refine k_xRv X (k_xrunS (As := [.int (nI (S.2 0 4)), .int 512]) (rest := []) Z X (c_X7_refuseFull l E G S T o ad (S.2 0 4) 512 hE (by omega) (by decide)) (k_cwS 2 Z.1.2.2.2.2 (inU_7 _ (List.mem_of_getElem? (i := 1) rfl)) (inU_7 _ (List.mem_of_getElem? (i := 2) rfl)) (inU_1 _ (List.mem_of_getElem? (i := 2) rfl)) (inU_7 _ (List.mem_of_getElem? (i := 3) rfl)) rfl rfl (by decide +kernel) ⟨Nat.le_of_ble_eq_true rfl, Nat.le_of_ble_eq_true rfl⟩) rfl hl.1 rfl (Nat.le_of_ble_eq_true rfl) dX7_mark_41 ⟨(Nat.le_of_ble_eq_true rfl), (Nat.le_of_ble_eq_true rfl)⟩) (fun x ce q9 ad1 ct1 H locs hp X x1 x2 x3 => ?_) (fun ad1 ct1 H locs hp X => ?_)
  · obtain ⟨⟨rfl, hq⟩, ha_, hb_⟩ := hp
    rw [← ha_, hb_] at X
    exact absurd hlog hq
  obtain ⟨q_f, ha_, hb_⟩ := hp
  rw [← ha_, hb_] at X
  refine lv_iload_n hx hb dX7_mark_44 rfl (lv_at hl 5 rfl) ?_
  refine lv_iconst (v := (-1)) hx hb dX7_mark_45 (by decide) ?_
  refine lv_icmp_ne (tgt := 72) hx hb dX7_mark_46 (by decide) (fun c_46 => ?_) (fun c_46 => ?_)
  · refine lv_aload hx hb dX7_mark_72 (lv_at hl 0 rfl) ?_
    refine k_get (index := 139) (j := 5) (ad := ad) (k := 5) (i := jm) Z X (ct_5 (by first | assumption | omega | decide)) inlX3 rfl (by decide) (inU_9 _ (List.mem_of_getElem? (i := 9) rfl)) (fun _ h => h) (v := .ref (ad 6 jm)) rfl dX7_mark_74 ?_
    refine lv_iload_n hx hb dX7_mark_77 rfl (lv_at hl 3 rfl) ?_
    refine lv_iload_n hx hb dX7_mark_78 rfl (lv_at hl 5 rfl) ?_
    refine k_Rv X (k_runV (As := [.int (nI ju), .int xk]) (rest := []) Z X (c_X2_put l E G ad (cto G S T o ad) 6 jm 7 jm ju (kdS S jm) (ct_6 hjm) (ct_7 hjm) (by omega) xk) (k_cwV 2 Z.1.2.2.2.2 (inU_13 _ (List.mem_of_getElem? (i := 11) rfl)) (inU_13 _ (List.mem_of_getElem? (i := 12) rfl)) (inU_13 _ (List.mem_of_getElem? (i := 13) rfl)) (inU_2 _ (List.mem_of_getElem? (i := 8) rfl)) (inU_13 _ (List.mem_of_getElem? (i := 14) rfl)) rfl rfl (by decide +kernel) ⟨Nat.le_of_ble_eq_true rfl, Nat.le_of_ble_eq_true rfl⟩) (k_recv Z X (ct_6 (by first | assumption | omega | decide)) rfl) rfl hl.1 rfl (Nat.le_of_ble_eq_true rfl) dX7_mark_79 ⟨(by first | exact Nat.le_of_ble_eq_true rfl | (show _ ≤ (_ : Nat); simp only [headSpec]; omega)), (by first | exact Nat.le_of_ble_eq_true rfl | (show _ ≤ (_ : Nat); simp only [headSpec]; omega))⟩) (fun ad1 ct1 H locs hp X => ?_)
    obtain ⟨ha_, hb_⟩ := hp
    rw [← ha_, hb_] at X
    have X : kX E G s H locs ad (cto G (sI S (100 + jm) ju xk) T o ad) := X.eq (cs_mput _ _ _ hjm)
    refine lv_aload_n hx hb dX7_mark_82 rfl (lv_at hl 2 rfl) ?_
    refine k_get (index := 40) (j := 5) (ad := ad) (k := 0) (i := 0) Z X ct_0 inlX7 rfl (by decide) (inU_2 _ (List.mem_of_getElem? (i := 5) rfl)) (fun _ h => h) (v := .ref (ad 12 0)) rfl dX7_mark_83 ?_
    refine lv_iload_n hx hb dX7_mark_86 rfl (lv_at hl 4 rfl) ?_
    refine lv_iload_n hx hb dX7_mark_87 rfl (lv_at hl 3 rfl) ?_
    refine lv_iload_n hx hb dX7_mark_88 rfl (lv_at hl 5 rfl) ?_
    refine k_Rv X (k_runV (As := [.int (nI jm), .int (nI ju), .int xk]) (rest := []) Z X (c_X1_writeMark l E G (sI S (100 + jm) ju xk) T o ad (nI jm) (nI ju) xk hlog) (k_cwV 3 Z.1.2.2.2.2 (inU_13 _ (List.mem_of_getElem? (i := 15) rfl)) (inU_13 _ (List.mem_of_getElem? (i := 16) rfl)) (inU_13 _ (List.mem_of_getElem? (i := 17) rfl)) (inU_2 _ (List.mem_of_getElem? (i := 4) rfl)) (inU_13 _ (List.mem_of_getElem? (i := 18) rfl)) rfl rfl (by decide +kernel) ⟨Nat.le_of_ble_eq_true rfl, Nat.le_of_ble_eq_true rfl⟩) (k_recv Z X ct_12 rfl) rfl hl.1 rfl (Nat.le_of_ble_eq_true rfl) dX7_mark_89 ⟨(by first | exact Nat.le_of_ble_eq_true rfl | (show _ ≤ (_ : Nat); simp only [headSpec]; omega)), (by first | exact Nat.le_of_ble_eq_true rfl | (show _ ≤ (_ : Nat); simp only [headSpec]; omega))⟩) (fun ad1 ct1 H locs hp X => ?_)
    obtain ⟨ha_, hb_⟩ := hp
    rw [← ha_, hb_] at X
    have X : kX E G s H locs ad (cto G (lgE (sI S (100 + jm) ju xk) (nI jm) (nI ju) xk) T o ad) := X
    have e4 : (lgE (sI S (100 + jm) ju xk) (nI jm) (nI ju) xk) = oMkC S (nI ju) (nI jm) xk := by rw [oMkC, hcm, hcu]
    have hN4 : okN (lgE (sI S (100 + jm) ju xk) (nI jm) (nI ju) xk) := okN_lg (okN_c rfl hS)
    have hL4 : okL (lgE (sI S (100 + jm) ju xk) (nI jm) (nI ju) xk) := okL_lg (okL_c rfl hL)
    have hK4 : okK (lgE (sI S (100 + jm) ju xk) (nI jm) (nI ju) xk) := okK_lg (by have h := okK_mk (m := nI jm) (u := nI ju) hK9 (inR_3 q_r); rw [hcm, hcu] at h; exact h)
    have k02 : (lgE (sI S (100 + jm) ju xk) (nI jm) (nI ju) xk).2 0 2 = S.2 0 2 := lgE_2 (by decide)
    have k00 : (lgE (sI S (100 + jm) ju xk) (nI jm) (nI ju) xk).2 0 0 = S.2 0 0 := lgE_2 (by decide)
    have k01 : (lgE (sI S (100 + jm) ju xk) (nI jm) (nI ju) xk).2 0 1 = S.2 0 1 := lgE_2 (by decide)
    generalize (lgE (sI S (100 + jm) ju xk) (nI jm) (nI ju) xk) = S4 at X e4 hN4 hL4 hK4 k02 k00 k01
    refine lv_aload_n hx hb dX7_mark_92 rfl (lv_at hl 2 rfl) ?_
    refine k_Rv X (k_runV (As := []) (rest := []) Z X (c_X7_takeSpendsBack l E G S4 T o ad hN4 hL4 hK4) (k_cwV 0 Z.1.2.2.2.2 (inU_8 _ (List.mem_of_getElem? (i := 17) rfl)) (inU_8 _ (List.mem_of_getElem? (i := 18) rfl)) (inU_8 _ (List.mem_of_getElem? (i := 19) rfl)) (inU_1 _ (List.mem_of_getElem? (i := 2) rfl)) (inU_8 _ (List.mem_of_getElem? (i := 20) rfl)) rfl rfl (by decide +kernel) ⟨Nat.le_of_ble_eq_true rfl, Nat.le_of_ble_eq_true rfl⟩) (k_recv Z X ct_0 rfl) rfl hl.1 rfl (Nat.le_of_ble_eq_true rfl) dX7_mark_93 ⟨(by first | exact Nat.le_of_ble_eq_true rfl | (show _ ≤ (_ : Nat); simp only [headSpec]; omega)), (by first | exact Nat.le_of_ble_eq_true rfl | (show _ ≤ (_ : Nat); simp only [headSpec]; omega))⟩) (fun ad1 ct1 H locs hp X => ?_)
    obtain ⟨ha_, hb_⟩ := hp
    rw [← ha_, hb_] at X
    have e5 : (stl S4 (kdS S4) (S4.2 0 2)) = oMarkC S (nI ju) (nI jm) xk := by rw [oMarkC, ← e4, k02]
    have k2 := (stl_r S4 (kdS S4) (S4.2 0 2)).1
    have hN5 : okN (stl S4 (kdS S4) (S4.2 0 2)) := okN_c k2 hN4
    have hL5 : okL (stl S4 (kdS S4) (S4.2 0 2)) := okL_c k2 hL4
    generalize (stl S4 (kdS S4) (S4.2 0 2)) = S5 at X e5 k2 hN5 hL5
    have hm5 : jm < S5.2 0 1 := by rw [k2, k01]; exact hjm
    refine lv_aload_n hx hb dX7_mark_96 rfl (lv_at hl 2 rfl) ?_
    refine lv_aload hx hb dX7_mark_97 (lv_at hl 0 rfl) ?_
    refine k_get (index := 139) (j := 5) (ad := ad) (k := 5) (i := jm) Z X (ct_5 hm5) inlX3 rfl (by decide) (inU_9 _ (List.mem_of_getElem? (i := 9) rfl)) (fun _ h => h) (v := .ref (ad 6 jm)) rfl dX7_mark_99 ?_
    refine k_Ri X (k_runV (As := [.ref (ad 6 jm)]) (rest := []) Z X (c_X7_countMarks l E G S5 T o ad 6 jm 7 jm (kdS S5 jm) (ct_6 hm5) (ct_7 hm5) hN5 hL5) (k_cwV 1 Z.1.2.2.2.2 (inU_13 _ (List.mem_of_getElem? (i := 19) rfl)) (inU_13 _ (List.mem_of_getElem? (i := 20) rfl)) (inU_13 _ (List.mem_of_getElem? (i := 21) rfl)) (inU_1 _ (List.mem_of_getElem? (i := 2) rfl)) (inU_13 _ (List.mem_of_getElem? (i := 22) rfl)) rfl rfl (by decide +kernel) ⟨Nat.le_of_ble_eq_true rfl, Nat.le_of_ble_eq_true rfl⟩) (k_recv Z X ct_0 rfl) rfl hl.1 rfl (Nat.le_of_ble_eq_true rfl) dX7_mark_102 ⟨(by first | exact Nat.le_of_ble_eq_true rfl | (show _ ≤ (_ : Nat); simp only [headSpec]; omega)), (by first | exact Nat.le_of_ble_eq_true rfl | (show _ ≤ (_ : Nat); simp only [headSpec]; omega))⟩) (fun r_102 ad1 ct1 H locs hp X => ?_)
    obtain ⟨rfl, ha_, hb_⟩ := hp
    rw [← ha_, hb_] at X
    have hk : cMark S (kdS S) (nI ju) (nI jm) xk = 0 := by simp [cMark, (show inR (-1) (-1) 1 = true from by decide), q_u, hcu, q_m, hcm, q_r, q_g, q_a, q_f, c_46]
    exact vx_ret (k_iret Z X hr hlocks rfl (Nat.le_of_ble_eq_true rfl) (Nat.le_of_ble_eq_true rfl) dX7_mark_105 ⟨⟨hk, by rw [← e5, hcm, k2, k00]⟩, rfl, by rw [e5]⟩)
  · refine lv_aload hx hb dX7_mark_49 (lv_at hl 0 rfl) ?_
    refine k_get (index := 139) (j := 5) (ad := ad) (k := 5) (i := jm) Z X (ct_5 (by first | assumption | omega | decide)) inlX3 rfl (by decide) (inU_9 _ (List.mem_of_getElem? (i := 9) rfl)) (fun _ h => h) (v := .ref (ad 6 jm)) rfl dX7_mark_51 ?_
    refine lv_iload_n hx hb dX7_mark_54 rfl (lv_at hl 3 rfl) ?_
    refine k_Ri X (k_runV (As := [.int (nI ju)]) (rest := []) Z X (c_X2_kindOf l E G ad (cto G S T o ad) 6 jm 7 jm ju (kdS S jm) (ct_6 hjm) (ct_7 hjm) (by omega)) (k_cwV 1 Z.1.2.2.2.2 (inU_9 _ (List.mem_of_getElem? (i := 15) rfl)) (inU_9 _ (List.mem_of_getElem? (i := 16) rfl)) (inU_9 _ (List.mem_of_getElem? (i := 17) rfl)) (inU_2 _ (List.mem_of_getElem? (i := 8) rfl)) (inU_9 _ (List.mem_of_getElem? (i := 18) rfl)) rfl rfl (by decide +kernel) ⟨Nat.le_of_ble_eq_true rfl, Nat.le_of_ble_eq_true rfl⟩) (k_recv Z X (ct_6 (by first | assumption | omega | decide)) rfl) rfl hl.1 rfl (Nat.le_of_ble_eq_true rfl) dX7_mark_55 ⟨(by first | exact Nat.le_of_ble_eq_true rfl | (show _ ≤ (_ : Nat); simp only [headSpec]; omega)), (by first | exact Nat.le_of_ble_eq_true rfl | (show _ ≤ (_ : Nat); simp only [headSpec]; omega))⟩) (fun r_55 ad1 ct1 H locs hp X => ?_)
    obtain ⟨rfl, ha_, hb_⟩ := hp
    rw [← ha_, hb_] at X
    refine lv_iconst (v := (-1)) hx hb dX7_mark_58 (by decide) ?_
    refine lv_icmp_ne (tgt := 72) hx hb dX7_mark_59 (by decide) (fun c_59 => ?_) (fun c_59 => ?_)
    · refine lv_aload hx hb dX7_mark_72 (lv_at hl 0 rfl) ?_
      refine k_get (index := 139) (j := 5) (ad := ad) (k := 5) (i := jm) Z X (ct_5 (by first | assumption | omega | decide)) inlX3 rfl (by decide) (inU_9 _ (List.mem_of_getElem? (i := 9) rfl)) (fun _ h => h) (v := .ref (ad 6 jm)) rfl dX7_mark_74 ?_
      refine lv_iload_n hx hb dX7_mark_77 rfl (lv_at hl 3 rfl) ?_
      refine lv_iload_n hx hb dX7_mark_78 rfl (lv_at hl 5 rfl) ?_
      refine k_Rv X (k_runV (As := [.int (nI ju), .int xk]) (rest := []) Z X (c_X2_put l E G ad (cto G S T o ad) 6 jm 7 jm ju (kdS S jm) (ct_6 hjm) (ct_7 hjm) (by omega) xk) (k_cwV 2 Z.1.2.2.2.2 (inU_13 _ (List.mem_of_getElem? (i := 11) rfl)) (inU_13 _ (List.mem_of_getElem? (i := 12) rfl)) (inU_13 _ (List.mem_of_getElem? (i := 13) rfl)) (inU_2 _ (List.mem_of_getElem? (i := 8) rfl)) (inU_13 _ (List.mem_of_getElem? (i := 14) rfl)) rfl rfl (by decide +kernel) ⟨Nat.le_of_ble_eq_true rfl, Nat.le_of_ble_eq_true rfl⟩) (k_recv Z X (ct_6 (by first | assumption | omega | decide)) rfl) rfl hl.1 rfl (Nat.le_of_ble_eq_true rfl) dX7_mark_79 ⟨(by first | exact Nat.le_of_ble_eq_true rfl | (show _ ≤ (_ : Nat); simp only [headSpec]; omega)), (by first | exact Nat.le_of_ble_eq_true rfl | (show _ ≤ (_ : Nat); simp only [headSpec]; omega))⟩) (fun ad1 ct1 H locs hp X => ?_)
      obtain ⟨ha_, hb_⟩ := hp
      rw [← ha_, hb_] at X
      have X : kX E G s H locs ad (cto G (sI S (100 + jm) ju xk) T o ad) := X.eq (cs_mput _ _ _ hjm)
      refine lv_aload_n hx hb dX7_mark_82 rfl (lv_at hl 2 rfl) ?_
      refine k_get (index := 40) (j := 5) (ad := ad) (k := 0) (i := 0) Z X ct_0 inlX7 rfl (by decide) (inU_2 _ (List.mem_of_getElem? (i := 5) rfl)) (fun _ h => h) (v := .ref (ad 12 0)) rfl dX7_mark_83 ?_
      refine lv_iload_n hx hb dX7_mark_86 rfl (lv_at hl 4 rfl) ?_
      refine lv_iload_n hx hb dX7_mark_87 rfl (lv_at hl 3 rfl) ?_
      refine lv_iload_n hx hb dX7_mark_88 rfl (lv_at hl 5 rfl) ?_
      refine k_Rv X (k_runV (As := [.int (nI jm), .int (nI ju), .int xk]) (rest := []) Z X (c_X1_writeMark l E G (sI S (100 + jm) ju xk) T o ad (nI jm) (nI ju) xk hlog) (k_cwV 3 Z.1.2.2.2.2 (inU_13 _ (List.mem_of_getElem? (i := 15) rfl)) (inU_13 _ (List.mem_of_getElem? (i := 16) rfl)) (inU_13 _ (List.mem_of_getElem? (i := 17) rfl)) (inU_2 _ (List.mem_of_getElem? (i := 4) rfl)) (inU_13 _ (List.mem_of_getElem? (i := 18) rfl)) rfl rfl (by decide +kernel) ⟨Nat.le_of_ble_eq_true rfl, Nat.le_of_ble_eq_true rfl⟩) (k_recv Z X ct_12 rfl) rfl hl.1 rfl (Nat.le_of_ble_eq_true rfl) dX7_mark_89 ⟨(by first | exact Nat.le_of_ble_eq_true rfl | (show _ ≤ (_ : Nat); simp only [headSpec]; omega)), (by first | exact Nat.le_of_ble_eq_true rfl | (show _ ≤ (_ : Nat); simp only [headSpec]; omega))⟩) (fun ad1 ct1 H locs hp X => ?_)
      obtain ⟨ha_, hb_⟩ := hp
      rw [← ha_, hb_] at X
      have X : kX E G s H locs ad (cto G (lgE (sI S (100 + jm) ju xk) (nI jm) (nI ju) xk) T o ad) := X
      have e4 : (lgE (sI S (100 + jm) ju xk) (nI jm) (nI ju) xk) = oMkC S (nI ju) (nI jm) xk := by rw [oMkC, hcm, hcu]
      have hN4 : okN (lgE (sI S (100 + jm) ju xk) (nI jm) (nI ju) xk) := okN_lg (okN_c rfl hS)
      have hL4 : okL (lgE (sI S (100 + jm) ju xk) (nI jm) (nI ju) xk) := okL_lg (okL_c rfl hL)
      have hK4 : okK (lgE (sI S (100 + jm) ju xk) (nI jm) (nI ju) xk) := okK_lg (by have h := okK_mk (m := nI jm) (u := nI ju) hK9 (inR_3 q_r); rw [hcm, hcu] at h; exact h)
      have k02 : (lgE (sI S (100 + jm) ju xk) (nI jm) (nI ju) xk).2 0 2 = S.2 0 2 := lgE_2 (by decide)
      have k00 : (lgE (sI S (100 + jm) ju xk) (nI jm) (nI ju) xk).2 0 0 = S.2 0 0 := lgE_2 (by decide)
      have k01 : (lgE (sI S (100 + jm) ju xk) (nI jm) (nI ju) xk).2 0 1 = S.2 0 1 := lgE_2 (by decide)
      generalize (lgE (sI S (100 + jm) ju xk) (nI jm) (nI ju) xk) = S4 at X e4 hN4 hL4 hK4 k02 k00 k01
      refine lv_aload_n hx hb dX7_mark_92 rfl (lv_at hl 2 rfl) ?_
      refine k_Rv X (k_runV (As := []) (rest := []) Z X (c_X7_takeSpendsBack l E G S4 T o ad hN4 hL4 hK4) (k_cwV 0 Z.1.2.2.2.2 (inU_8 _ (List.mem_of_getElem? (i := 17) rfl)) (inU_8 _ (List.mem_of_getElem? (i := 18) rfl)) (inU_8 _ (List.mem_of_getElem? (i := 19) rfl)) (inU_1 _ (List.mem_of_getElem? (i := 2) rfl)) (inU_8 _ (List.mem_of_getElem? (i := 20) rfl)) rfl rfl (by decide +kernel) ⟨Nat.le_of_ble_eq_true rfl, Nat.le_of_ble_eq_true rfl⟩) (k_recv Z X ct_0 rfl) rfl hl.1 rfl (Nat.le_of_ble_eq_true rfl) dX7_mark_93 ⟨(by first | exact Nat.le_of_ble_eq_true rfl | (show _ ≤ (_ : Nat); simp only [headSpec]; omega)), (by first | exact Nat.le_of_ble_eq_true rfl | (show _ ≤ (_ : Nat); simp only [headSpec]; omega))⟩) (fun ad1 ct1 H locs hp X => ?_)
      obtain ⟨ha_, hb_⟩ := hp
      rw [← ha_, hb_] at X
      have e5 : (stl S4 (kdS S4) (S4.2 0 2)) = oMarkC S (nI ju) (nI jm) xk := by rw [oMarkC, ← e4, k02]
      have k2 := (stl_r S4 (kdS S4) (S4.2 0 2)).1
      have hN5 : okN (stl S4 (kdS S4) (S4.2 0 2)) := okN_c k2 hN4
      have hL5 : okL (stl S4 (kdS S4) (S4.2 0 2)) := okL_c k2 hL4
      generalize (stl S4 (kdS S4) (S4.2 0 2)) = S5 at X e5 k2 hN5 hL5
      have hm5 : jm < S5.2 0 1 := by rw [k2, k01]; exact hjm
      refine lv_aload_n hx hb dX7_mark_96 rfl (lv_at hl 2 rfl) ?_
      refine lv_aload hx hb dX7_mark_97 (lv_at hl 0 rfl) ?_
      refine k_get (index := 139) (j := 5) (ad := ad) (k := 5) (i := jm) Z X (ct_5 hm5) inlX3 rfl (by decide) (inU_9 _ (List.mem_of_getElem? (i := 9) rfl)) (fun _ h => h) (v := .ref (ad 6 jm)) rfl dX7_mark_99 ?_
      refine k_Ri X (k_runV (As := [.ref (ad 6 jm)]) (rest := []) Z X (c_X7_countMarks l E G S5 T o ad 6 jm 7 jm (kdS S5 jm) (ct_6 hm5) (ct_7 hm5) hN5 hL5) (k_cwV 1 Z.1.2.2.2.2 (inU_13 _ (List.mem_of_getElem? (i := 19) rfl)) (inU_13 _ (List.mem_of_getElem? (i := 20) rfl)) (inU_13 _ (List.mem_of_getElem? (i := 21) rfl)) (inU_1 _ (List.mem_of_getElem? (i := 2) rfl)) (inU_13 _ (List.mem_of_getElem? (i := 22) rfl)) rfl rfl (by decide +kernel) ⟨Nat.le_of_ble_eq_true rfl, Nat.le_of_ble_eq_true rfl⟩) (k_recv Z X ct_0 rfl) rfl hl.1 rfl (Nat.le_of_ble_eq_true rfl) dX7_mark_102 ⟨(by first | exact Nat.le_of_ble_eq_true rfl | (show _ ≤ (_ : Nat); simp only [headSpec]; omega)), (by first | exact Nat.le_of_ble_eq_true rfl | (show _ ≤ (_ : Nat); simp only [headSpec]; omega))⟩) (fun r_102 ad1 ct1 H locs hp X => ?_)
      obtain ⟨rfl, ha_, hb_⟩ := hp
      rw [← ha_, hb_] at X
      have hk : cMark S (kdS S) (nI ju) (nI jm) xk = 0 := by simp [cMark, (show inR (-1) (-1) 1 = true from by decide), q_u, hcu, q_m, hcm, q_r, q_g, q_a, q_f, c_46, c_59]
      exact vx_ret (k_iret Z X hr hlocks rfl (Nat.le_of_ble_eq_true rfl) (Nat.le_of_ble_eq_true rfl) dX7_mark_105 ⟨⟨hk, by rw [← e5, hcm, k2, k00]⟩, rfl, by rw [e5]⟩)
    · have hk : cMark S (kdS S) (nI ju) (nI jm) xk = 3 := by simp [cMark, (show inR (-1) (-1) 1 = true from by decide), q_u, hcu, q_m, hcm, q_r, q_g, q_a, q_f, c_46, c_59]
      exact k_throwS hE Z X hout hlocks hl.1 kThr_ISE (inU_7 _ (List.mem_of_getElem? (i := 4) rfl)) (inU_7 _ (List.mem_of_getElem? (i := 5) rfl)) (text := "there is no mark to take off") (List.mem_of_getElem? (i := 3) rfl) dX7_mark_62 dX7_mark_65 dX7_mark_66 dX7_mark_68 dX7_mark_71 (Nat.le_of_ble_eq_true rfl) ⟨(Nat.le_of_ble_eq_true rfl), (Nat.le_of_ble_eq_true rfl), (Nat.le_of_ble_eq_true rfl), (Nat.le_of_ble_eq_true rfl)⟩ ⟨(Nat.le_of_ble_eq_true rfl), (Nat.le_of_ble_eq_true rfl)⟩ ⟨(Nat.le_of_ble_eq_true rfl), (Nat.le_of_ble_eq_true rfl)⟩ ⟨Or.inr (Or.inr ⟨hk, rfl⟩), rfl, rfl⟩
theorem dX7_done_0 : decode cX7_done 0 = .ok (.aload_n 0, 1) := by decide +kernel
theorem dX7_done_1 : decode cX7_done 1 = .ok (.iload_n 1, 1) := by decide +kernel
theorem dX7_done_2 : decode cX7_done 2 = .ok (.invokevirtual 74, 3) := by decide +kernel
theorem dX7_done_5 : decode cX7_done 5 = .ok (.astore_n 3, 1) := by decide +kernel
theorem dX7_done_6 : decode cX7_done 6 = .ok (.aload_n 0, 1) := by decide +kernel
theorem dX7_done_7 : decode cX7_done 7 = .ok (.iload_n 2, 1) := by decide +kernel
theorem dX7_done_8 : decode cX7_done 8 = .ok (.invokevirtual 187, 3) := by decide +kernel
theorem dX7_done_11 : decode cX7_done 11 = .ok (.astore 4, 2) := by decide +kernel
theorem dX7_done_13 : decode cX7_done 13 = .ok (.aload_n 0, 1) := by decide +kernel
theorem dX7_done_14 : decode cX7_done 14 = .ok (.aload_n 3, 1) := by decide +kernel
theorem dX7_done_15 : decode cX7_done 15 = .ok (.invokevirtual 120, 3) := by decide +kernel
theorem dX7_done_18 : decode cX7_done 18 = .ok (.aload 4, 2) := by decide +kernel
theorem dX7_done_20 : decode cX7_done 20 = .ok (.getfield 191, 3) := by decide +kernel
theorem dX7_done_23 : decode cX7_done 23 = .ok (.getfield 71, 3) := by decide +kernel
theorem dX7_done_26 : decode cX7_done 26 = .ok (.aload_n 3, 1) := by decide +kernel
theorem dX7_done_27 : decode cX7_done 27 = .ok (.getfield 71, 3) := by decide +kernel
theorem dX7_done_30 : decode cX7_done 30 = .ok (.if_icmp .eq 13, 3) := by decide +kernel
theorem dX7_done_33 : decode cX7_done 33 = .ok (.new 96, 3) := by decide +kernel
theorem dX7_done_36 : decode cX7_done 36 = .ok (.dup, 1) := by decide +kernel
theorem dX7_done_37 : decode cX7_done 37 = .ok (.ldc 194, 2) := by decide +kernel
theorem dX7_done_39 : decode cX7_done 39 = .ok (.invokespecial 100, 3) := by decide +kernel
theorem dX7_done_42 : decode cX7_done 42 = .ok (.athrow, 1) := by decide +kernel
theorem dX7_done_43 : decode cX7_done 43 = .ok (.aload 4, 2) := by decide +kernel
theorem dX7_done_45 : decode cX7_done 45 = .ok (.getfield 196, 3) := by decide +kernel
theorem dX7_done_48 : decode cX7_done 48 = .ok (.ifCond .eq 13, 3) := by decide +kernel
theorem dX7_done_51 : decode cX7_done 51 = .ok (.new 96, 3) := by decide +kernel
theorem dX7_done_54 : decode cX7_done 54 = .ok (.dup, 1) := by decide +kernel
theorem dX7_done_55 : decode cX7_done 55 = .ok (.ldc 199, 2) := by decide +kernel
theorem dX7_done_57 : decode cX7_done 57 = .ok (.invokespecial 100, 3) := by decide +kernel
theorem dX7_done_60 : decode cX7_done 60 = .ok (.athrow, 1) := by decide +kernel
theorem dX7_done_61 : decode cX7_done 61 = .ok (.aload 4, 2) := by decide +kernel
theorem dX7_done_63 : decode cX7_done 63 = .ok (.iconst 1, 1) := by decide +kernel
theorem dX7_done_64 : decode cX7_done 64 = .ok (.putfield 196, 3) := by decide +kernel
theorem dX7_done_67 : decode cX7_done 67 = .ok (.aload 4, 2) := by decide +kernel
theorem dX7_done_69 : decode cX7_done 69 = .ok (.getfield 201, 3) := by decide +kernel
theorem dX7_done_72 : decode cX7_done 72 = .ok (.aload_n 0, 1) := by decide +kernel
theorem dX7_done_73 : decode cX7_done 73 = .ok (.getfield 51, 3) := by decide +kernel
theorem dX7_done_76 : decode cX7_done 76 = .ok (.isub, 1) := by decide +kernel
theorem dX7_done_77 : decode cX7_done 77 = .ok (.ireturn, 1) := by decide +kernel
set_option maxHeartbeats 4000000 in
set_option maxRecDepth 100000 in
theorem c_X7_done (l : Launch) (E : State) (G : kG) (S T : kSt) (o : Int64) (ad : kAd) (xu xt : Int32) (hE : kE l E G) (hS : okN S) (hL : okL S) : vx_Met l yX7_done (.code yX7_done cX7_done 5 (some .int) :: wsL_law) ({ frames := 14, cells := 20, slots := 400, locals := 400 } : Room) (va_Pc [.ref (ad 0 0), .int xu, .int xt] (kPre E G ad (cto G S T o ad))) (kQi E G (fun r ad1 ct1 => (cDone S xu xt = 0 ∧ r = S.1 13 (cl xt) - S.1 0 0) ∧ ad = ad1 ∧ ct1 = cto G (oDone S xt) T o ad)) (kXC E G (fun x ad1 ct1 => ((cDone S xu xt = 1 ∧ x = "java/lang/IndexOutOfBoundsException") ∨ (cDone S xu xt = 2 ∧ x = "java/lang/IllegalStateException")) ∧ ad = ad1 ∧ ct1 = cto G S T o ad)) 20 400 (kB E.heap.size) := by
  refine vx_ofW (cc := cX7_done) (maxL := 5) (ret := (some .int)) (by decide) rfl ?_
  intro p e s m args below meth c s₁ B hml hout hv
  obtain ⟨rfl, hM, hK, hW0⟩ := hv
  have hlocks := B.notSynchronized
  have hr := B.returns
  have Z : kZ p m c cX7_done 5 s _ wsL_law RX7 E G := ⟨⟨B.exec, B.bytes, hml, findClass_of_methodNamed B.named, fun w h => atoms_spec (ws := .code yX7_done cX7_done 5 (some .int) :: wsL_law) B.pre w (List.mem_cons_of_mem _ h)⟩, hM, hK⟩
  have hx := Z.1.1
  have hb := Z.1.2.1
  have X := kX.of hW0
  have hl := lv_entry ([.ref (ad 0 0), .int xu, .int xt]) (n := 5) (Nat.le_of_ble_eq_true rfl)
  rw [lg_entry_eq]
  generalize (lg_sl ([.ref (ad 0 0), .int xu, .int xt]) ++ List.replicate (5 - (lg_sl ([.ref (ad 0 0), .int xu, .int xt])).length) Slot.unset).toArray = ls at hl ⊢
  have hl : lv_has ls 5 [(0, .ref (ad 0 0)), (1, .int xu), (2, .int xt)] := hl
  obtain ⟨hT1, hT2, hT3, hT4, hT5, hT6, hT7⟩ := id hS
  refine lv_aload_n hx hb dX7_done_0 rfl (lv_at hl 0 rfl) ?_
  refine lv_iload_n hx hb dX7_done_1 rfl (lv_at hl 1 rfl) ?_
  refine k_xRq X (k_xrunV (As := [.int xu]) (rest := []) Z X (c_X7_userAt l E G S T o ad xu hE hS hL) (k_cwV 1 Z.1.2.2.2.2 (inU_7 _ (List.mem_of_getElem? (i := 18) rfl)) (inU_7 _ (List.mem_of_getElem? (i := 19) rfl)) (inU_7 _ (List.mem_of_getElem? (i := 20) rfl)) (inU_1 _ (List.mem_of_getElem? (i := 2) rfl)) (inU_7 _ (List.mem_of_getElem? (i := 21) rfl)) rfl rfl (by decide +kernel) ⟨Nat.le_of_ble_eq_true rfl, Nat.le_of_ble_eq_true rfl⟩) (k_recv Z X ct_0 rfl) rfl hl.1 rfl (Nat.le_of_ble_eq_true rfl) dX7_done_2 ⟨(Nat.le_of_ble_eq_true rfl), (Nat.le_of_ble_eq_true rfl)⟩) (fun x ce q9 ad1 ct1 H locs hp X x1 x2 x3 => ?_) (fun r_2 ad1 ct1 H locs hp X => ?_)
  · obtain ⟨⟨rfl, hq⟩, ha_, hb_⟩ := hp
    rw [← ha_, hb_] at X
    have hk : cDone S xu xt = 1 := by simp [cDone, hq]
    exact k_out hout hlocks X x1 x2 x3 ⟨Or.inl ⟨hk, rfl⟩, rfl, rfl⟩ (Nat.le_of_ble_eq_true rfl) (Nat.le_of_ble_eq_true rfl)
  obtain ⟨⟨ju, hju, rfl, rfl⟩, ha_, hb_⟩ := hp
  rw [← ha_, hb_] at X
  have q_u : inB (nI ju) (S.2 0 0) = true := inB_nI hju (by omega)
  have hcu : cl (nI ju) = ju := nI_clamp (by omega)
  refine lv_astore_n (lv' := [(3, .ref (ad 4 ju)), (0, .ref (ad 0 0)), (1, .int (nI ju)), (2, .int xt)]) hx hb dX7_done_5 rfl hl (by decide) rfl (fun ls hl => ?_)
  refine lv_aload_n hx hb dX7_done_6 rfl (lv_at hl 1 rfl) ?_
  refine lv_iload_n hx hb dX7_done_7 rfl (lv_at hl 3 rfl) ?_
  refine k_xRq X (k_xrunV (As := [.int xt]) (rest := []) Z X (c_X7_taskAt l E G S T o ad xt hE hS hL) (k_cwV 1 Z.1.2.2.2.2 (inU_23 _ (List.mem_of_getElem? (i := 21) rfl)) (inU_23 _ (List.mem_of_getElem? (i := 22) rfl)) (inU_23 _ (List.mem_of_getElem? (i := 23) rfl)) (inU_1 _ (List.mem_of_getElem? (i := 2) rfl)) (inU_24 _ (List.mem_of_getElem? (i := 0) rfl)) rfl rfl (by decide +kernel) ⟨Nat.le_of_ble_eq_true rfl, Nat.le_of_ble_eq_true rfl⟩) (k_recv Z X ct_0 rfl) rfl hl.1 rfl (Nat.le_of_ble_eq_true rfl) dX7_done_8 ⟨(Nat.le_of_ble_eq_true rfl), (Nat.le_of_ble_eq_true rfl)⟩) (fun x ce q9 ad1 ct1 H locs hp X x1 x2 x3 => ?_) (fun r_8 ad1 ct1 H locs hp X => ?_)
  · obtain ⟨⟨rfl, hq⟩, ha_, hb_⟩ := hp
    rw [← ha_, hb_] at X
    have hk : cDone S (nI ju) xt = 1 := by simp [cDone, q_u, hcu, hq]
    exact k_out hout hlocks X x1 x2 x3 ⟨Or.inl ⟨hk, rfl⟩, rfl, rfl⟩ (Nat.le_of_ble_eq_true rfl) (Nat.le_of_ble_eq_true rfl)
  obtain ⟨⟨jt, hjt, rfl, rfl⟩, ha_, hb_⟩ := hp
  rw [← ha_, hb_] at X
  have q_t : inB (nI jt) (S.2 0 3) = true := inB_nI hjt (by omega)
  have hct : cl (nI jt) = jt := nI_clamp (by omega)
  have h7t := hT7 jt hjt
  refine lv_astore (lv' := [(4, .ref (ad 9 jt)), (3, .ref (ad 4 ju)), (0, .ref (ad 0 0)), (1, .int (nI ju)), (2, .int (nI jt))]) hx hb dX7_done_11 hl (by decide) rfl (fun ls hl => ?_)
  refine lv_aload_n hx hb dX7_done_13 rfl (lv_at hl 2 rfl) ?_
  refine lv_aload_n hx hb dX7_done_14 rfl (lv_at hl 1 rfl) ?_
  refine k_xRv X (k_xrunV (As := [.ref (ad 4 ju)]) (rest := []) Z X (c_X7_refuseGone l E G S T o ad ju hE hju) (k_cwV 1 Z.1.2.2.2.2 (inU_11 _ (List.mem_of_getElem? (i := 13) rfl)) (inU_11 _ (List.mem_of_getElem? (i := 14) rfl)) (inU_11 _ (List.mem_of_getElem? (i := 15) rfl)) (inU_1 _ (List.mem_of_getElem? (i := 2) rfl)) (inU_11 _ (List.mem_of_getElem? (i := 16) rfl)) rfl rfl (by decide +kernel) ⟨Nat.le_of_ble_eq_true rfl, Nat.le_of_ble_eq_true rfl⟩) (k_recv Z X ct_0 rfl) rfl hl.1 rfl (Nat.le_of_ble_eq_true rfl) dX7_done_15 ⟨(Nat.le_of_ble_eq_true rfl), (Nat.le_of_ble_eq_true rfl)⟩) (fun x ce q9 ad1 ct1 H locs hp X x1 x2 x3 => ?_) (fun ad1 ct1 H locs hp X => ?_)
  · obtain ⟨⟨rfl, hq⟩, ha_, hb_⟩ := hp
    rw [← ha_, hb_] at X
    have hk : cDone S (nI ju) (nI jt) = 2 := by simp [cDone, q_u, hcu, q_t, hct, hq]
    exact k_out hout hlocks X x1 x2 x3 ⟨Or.inr ⟨hk, rfl⟩, rfl, rfl⟩ (Nat.le_of_ble_eq_true rfl) (Nat.le_of_ble_eq_true rfl)
  obtain ⟨q_g, ha_, hb_⟩ := hp
  rw [← ha_, hb_] at X
  refine lv_aload hx hb dX7_done_18 (lv_at hl 0 rfl) ?_
  refine k_get (index := 191) (j := 2) (ad := ad) (k := 9) (i := jt) Z X (ct_9 (by first | assumption | omega | decide)) inlX5 rfl (by decide) (inU_23 _ (List.mem_of_getElem? (i := 19) rfl)) (fun _ h => h) (v := .ref (ad 4 (S.2 5 jt))) rfl dX7_done_20 ?_
  refine k_get (index := 71) (j := 0) (ad := ad) (k := 4) (i := (S.2 5 jt)) Z X (ct_4 h7t.2) inlX6 rfl (by decide) (inU_6 _ (List.mem_of_getElem? (i := 15) rfl)) (fun _ h => h) (v := .int (nI (S.2 5 jt))) rfl dX7_done_23 ?_
  refine lv_aload_n hx hb dX7_done_26 rfl (lv_at hl 1 rfl) ?_
  refine k_get (index := 71) (j := 0) (ad := ad) (k := 4) (i := ju) Z X (ct_4 (by first | assumption | omega | decide)) inlX6 rfl (by decide) (inU_6 _ (List.mem_of_getElem? (i := 15) rfl)) (fun _ h => h) (v := .int (nI ju)) rfl dX7_done_27 ?_
  refine lv_icmp_eq (tgt := 43) hx hb dX7_done_30 (by decide) (fun c_30 => ?_) (fun c_30 => ?_)
  · have c_30 : (S.2 5 jt) = ju := (nI_eq (a := (S.2 5 jt)) (b := ju) (by omega) (by omega)).mp c_30
    refine lv_aload hx hb dX7_done_43 (lv_at hl 0 rfl) ?_
    refine k_get (index := 196) (j := 5) (ad := ad) (k := 9) (i := jt) Z X (ct_9 (by first | assumption | omega | decide)) inlX5 rfl (by decide) (inU_13 _ (List.mem_of_getElem? (i := 6) rfl)) (fun _ h => h) (v := .int (S.1 14 jt)) rfl dX7_done_45 ?_
    refine lv_if_eq (tgt := 61) hx hb dX7_done_48 (by decide) (fun c_48 => ?_) (fun c_48 => ?_)
    · refine lv_aload hx hb dX7_done_61 (lv_at hl 0 rfl) ?_
      refine lv_iconst (v := 1) hx hb dX7_done_63 (by decide) ?_
      refine k_put (index := 196) (j := 5) (k := 9) (i := jt) Z X (ct_9 (by first | assumption | omega | decide)) inlX5 tyX5_ok nmX5 rfl (by decide) (inU_13 _ (List.mem_of_getElem? (i := 6) rfl)) (fun _ h => h) rfl (Nat.le_of_ble_eq_true rfl) rfl rfl dX7_done_64 (fun H locs X => ?_)
      have X : kX E G s H locs ad (cto G (sI S 14 jt 1) T o ad) := X.eq (cs_tkst _ _ hjt)
      refine lv_aload hx hb dX7_done_67 (lv_at hl 0 rfl) ?_
      refine k_get (index := 201) (j := 3) (ad := ad) (k := 9) (i := jt) Z X (ct_9 (by first | assumption | omega | decide)) inlX5 rfl (by decide) (inU_23 _ (List.mem_of_getElem? (i := 20) rfl)) (fun _ h => h) (v := .int (S.1 13 jt)) rfl dX7_done_69 ?_
      refine lv_aload_n hx hb dX7_done_72 rfl (lv_at hl 2 rfl) ?_
      refine k_get (index := 51) (j := 7) (ad := ad) (k := 0) (i := 0) Z X ct_0 inlX7 rfl (by decide) (inU_2 _ (List.mem_of_getElem? (i := 10) rfl)) (fun _ h => h) (v := .int (S.1 0 0)) rfl dX7_done_73 ?_
      refine lv_isub hx hb dX7_done_76 ?_
      have hk : cDone S (nI ju) (nI jt) = 0 := by simp [cDone, q_u, hcu, q_t, hct, q_g, c_30, c_48]
      exact vx_ret (k_iret Z X hr hlocks rfl (Nat.le_of_ble_eq_true rfl) (Nat.le_of_ble_eq_true rfl) dX7_done_77 ⟨⟨hk, by rw [hct]⟩, rfl, by rw [oDone, hct]⟩)
    · have hk : cDone S (nI ju) (nI jt) = 2 := by simp [cDone, q_u, hcu, q_t, hct, q_g, c_30, c_48]
      exact k_throwS hE Z X hout hlocks hl.1 kThr_ISE (inU_7 _ (List.mem_of_getElem? (i := 4) rfl)) (inU_7 _ (List.mem_of_getElem? (i := 5) rfl)) (text := "the task is not open") (List.mem_of_getElem? (i := 7) rfl) dX7_done_51 dX7_done_54 dX7_done_55 dX7_done_57 dX7_done_60 (Nat.le_of_ble_eq_true rfl) ⟨(Nat.le_of_ble_eq_true rfl), (Nat.le_of_ble_eq_true rfl), (Nat.le_of_ble_eq_true rfl), (Nat.le_of_ble_eq_true rfl)⟩ ⟨(Nat.le_of_ble_eq_true rfl), (Nat.le_of_ble_eq_true rfl)⟩ ⟨(Nat.le_of_ble_eq_true rfl), (Nat.le_of_ble_eq_true rfl)⟩ ⟨Or.inr ⟨hk, rfl⟩, rfl, rfl⟩
  · have c_30 : ¬ (S.2 5 jt) = ju := fun h => c_30 ((nI_eq (a := (S.2 5 jt)) (b := ju) (by omega) (by omega)).mpr h)
    have hk : cDone S (nI ju) (nI jt) = 2 := by simp [cDone, q_u, hcu, q_t, hct, q_g, c_30]
    exact k_throwS hE Z X hout hlocks hl.1 kThr_ISE (inU_7 _ (List.mem_of_getElem? (i := 4) rfl)) (inU_7 _ (List.mem_of_getElem? (i := 5) rfl)) (text := "the task is for another user") (List.mem_of_getElem? (i := 6) rfl) dX7_done_33 dX7_done_36 dX7_done_37 dX7_done_39 dX7_done_42 (Nat.le_of_ble_eq_true rfl) ⟨(Nat.le_of_ble_eq_true rfl), (Nat.le_of_ble_eq_true rfl), (Nat.le_of_ble_eq_true rfl), (Nat.le_of_ble_eq_true rfl)⟩ ⟨(Nat.le_of_ble_eq_true rfl), (Nat.le_of_ble_eq_true rfl)⟩ ⟨(Nat.le_of_ble_eq_true rfl), (Nat.le_of_ble_eq_true rfl)⟩ ⟨Or.inr ⟨hk, rfl⟩, rfl, rfl⟩
theorem dX7_hold_0 : decode cX7_hold 0 = .ok (.aload_n 0, 1) := by decide +kernel
theorem dX7_hold_1 : decode cX7_hold 1 = .ok (.iload_n 1, 1) := by decide +kernel
theorem dX7_hold_2 : decode cX7_hold 2 = .ok (.invokevirtual 87, 3) := by decide +kernel
theorem dX7_hold_5 : decode cX7_hold 5 = .ok (.astore_n 2, 1) := by decide +kernel
theorem dX7_hold_6 : decode cX7_hold 6 = .ok (.aload_n 2, 1) := by decide +kernel
theorem dX7_hold_7 : decode cX7_hold 7 = .ok (.aload_n 2, 1) := by decide +kernel
theorem dX7_hold_8 : decode cX7_hold 8 = .ok (.getfield 204, 3) := by decide +kernel
theorem dX7_hold_11 : decode cX7_hold 11 = .ok (.ifCond .ne 7, 3) := by decide +kernel
theorem dX7_hold_14 : decode cX7_hold 14 = .ok (.iconst 1, 1) := by decide +kernel
theorem dX7_hold_15 : decode cX7_hold 15 = .ok (.goto 4, 3) := by decide +kernel
theorem dX7_hold_18 : decode cX7_hold 18 = .ok (.iconst 0, 1) := by decide +kernel
theorem dX7_hold_19 : decode cX7_hold 19 = .ok (.putfield 204, 3) := by decide +kernel
theorem dX7_hold_22 : decode cX7_hold 22 = .ok (.aload_n 2, 1) := by decide +kernel
theorem dX7_hold_23 : decode cX7_hold 23 = .ok (.getfield 204, 3) := by decide +kernel
theorem dX7_hold_26 : decode cX7_hold 26 = .ok (.ireturn, 1) := by decide +kernel
set_option maxHeartbeats 4000000 in
set_option maxRecDepth 100000 in
theorem c_X7_hold (l : Launch) (E : State) (G : kG) (S T : kSt) (o : Int64) (ad : kAd) (xc : Int32) (hE : kE l E G) (hS : okN S) (hL : okL S) : vx_Met l yX7_hold (.code yX7_hold cX7_hold 3 (some .boolean) :: wsL_law) ({ frames := 14, cells := 20, slots := 400, locals := 400 } : Room) (va_Pc [.ref (ad 0 0), .int xc] (kPre E G ad (cto G S T o ad))) (kQi E G (fun r ad1 ct1 => (cHold xc = 0 ∧ r = vHold S xc) ∧ ad = ad1 ∧ ct1 = cto G (oHold S xc) T o ad)) (kXC E G (fun x ad1 ct1 => ((cHold xc = 1 ∧ x = "java/lang/IndexOutOfBoundsException")) ∧ ad = ad1 ∧ ct1 = cto G S T o ad)) 20 400 (kB E.heap.size) := by
  refine vx_ofW (cc := cX7_hold) (maxL := 3) (ret := (some .boolean)) (by decide) rfl ?_
  intro p e s m args below meth c s₁ B hml hout hv
  obtain ⟨rfl, hM, hK, hW0⟩ := hv
  have hlocks := B.notSynchronized
  have hr := B.returns
  have Z : kZ p m c cX7_hold 3 s _ wsL_law RX7 E G := ⟨⟨B.exec, B.bytes, hml, findClass_of_methodNamed B.named, fun w h => atoms_spec (ws := .code yX7_hold cX7_hold 3 (some .boolean) :: wsL_law) B.pre w (List.mem_cons_of_mem _ h)⟩, hM, hK⟩
  have hx := Z.1.1
  have hb := Z.1.2.1
  have X := kX.of hW0
  have hl := lv_entry ([.ref (ad 0 0), .int xc]) (n := 3) (Nat.le_of_ble_eq_true rfl)
  rw [lg_entry_eq]
  generalize (lg_sl ([.ref (ad 0 0), .int xc]) ++ List.replicate (3 - (lg_sl ([.ref (ad 0 0), .int xc])).length) Slot.unset).toArray = ls at hl ⊢
  have hl : lv_has ls 3 [(0, .ref (ad 0 0)), (1, .int xc)] := hl
  obtain ⟨hT1, hT2, hT3, hT4, hT5, hT6, hT7⟩ := id hS
  refine lv_aload_n hx hb dX7_hold_0 rfl (lv_at hl 0 rfl) ?_
  refine lv_iload_n hx hb dX7_hold_1 rfl (lv_at hl 1 rfl) ?_
  refine k_xRq X (k_xrunV (As := [.int xc]) (rest := []) Z X (c_X7_channelAt l E G S T o ad xc hE hS hL) (k_cwV 1 Z.1.2.2.2.2 (inU_10 _ (List.mem_of_getElem? (i := 14) rfl)) (inU_10 _ (List.mem_of_getElem? (i := 15) rfl)) (inU_10 _ (List.mem_of_getElem? (i := 16) rfl)) (inU_1 _ (List.mem_of_getElem? (i := 2) rfl)) (inU_10 _ (List.mem_of_getElem? (i := 17) rfl)) rfl rfl (by decide +kernel) ⟨Nat.le_of_ble_eq_true rfl, Nat.le_of_ble_eq_true rfl⟩) (k_recv Z X ct_0 rfl) rfl hl.1 rfl (Nat.le_of_ble_eq_true rfl) dX7_hold_2 ⟨(Nat.le_of_ble_eq_true rfl), (Nat.le_of_ble_eq_true rfl)⟩) (fun x ce q9 ad1 ct1 H locs hp X x1 x2 x3 => ?_) (fun r_2 ad1 ct1 H locs hp X => ?_)
  · obtain ⟨⟨rfl, hq⟩, ha_, hb_⟩ := hp
    rw [← ha_, hb_] at X
    have hk : cHold xc = 1 := by simp [cHold, hq]
    exact k_out hout hlocks X x1 x2 x3 ⟨⟨hk, rfl⟩, rfl, rfl⟩ (Nat.le_of_ble_eq_true rfl) (Nat.le_of_ble_eq_true rfl)
  obtain ⟨⟨jc, hjc, rfl, rfl⟩, ha_, hb_⟩ := hp
  rw [← ha_, hb_] at X
  have q_c : inB (nI jc) 6 = true := inB_nI hjc (by omega)
  have hcc : cl (nI jc) = jc := nI_clamp (by omega)
  refine lv_astore_n (lv' := [(2, .ref (ad 3 jc)), (0, .ref (ad 0 0)), (1, .int (nI jc))]) hx hb dX7_hold_5 rfl hl (by decide) rfl (fun ls hl => ?_)
  refine lv_aload_n hx hb dX7_hold_6 rfl (lv_at hl 0 rfl) ?_
  have M_19 : ∀ (H : Heap) (locs : List Loc), kX E G s H locs ad (cto G S T o ad) → W p l e (headSpec (Cond.code yX7_hold cX7_hold 3 (some .boolean) :: wsL_law) ({ frames := 14, cells := 20, slots := 400, locals := 400 } : Room)).room s m ([.ref (ad 0 0), .int (nI jc)] : List Value).toArray below meth c H locs 1 6 (vx_MQ below (kQi E G (fun r ad1 ct1 => (cHold (nI jc) = 0 ∧ r = vHold S (nI jc)) ∧ ad = ad1 ∧ ct1 = cto G (oHold S (nI jc)) T o ad)) (kXC E G (fun x ad1 ct1 => ((cHold (nI jc) = 1 ∧ x = "java/lang/IndexOutOfBoundsException")) ∧ ad = ad1 ∧ ct1 = cto G S T o ad)) ([.ref (ad 0 0), .int (nI jc)] : List Value).toArray s 20 400 (kB E.heap.size)) (F0 m 19 ls [.int (bI (decide (S.1 4 jc = 0))), .ref (ad 3 jc)]) := by
    intro H locs X
    refine k_put (index := 204) (j := 2) (k := 3) (i := jc) Z X (ct_3 (by first | assumption | omega | decide)) inlX0 tyX0_ok nmX0 rfl (by decide) (inU_24 _ (List.mem_of_getElem? (i := 5) rfl)) (fun _ h => h) rfl (Nat.le_of_ble_eq_true rfl) bI_nar bI_fit dX7_hold_19 (fun H locs X => ?_)
    have X : kX E G s H locs ad (cto G (sI S 4 jc (bI (decide (S.1 4 jc = 0)))) T o ad) := X.eq (cs_hold _ _ hjc)
    refine lv_aload_n hx hb dX7_hold_22 rfl (lv_at hl 0 rfl) ?_
    refine k_get (index := 204) (j := 2) (ad := ad) (k := 3) (i := jc) Z X (ct_3 (by first | assumption | omega | decide)) inlX0 rfl (by decide) (inU_24 _ (List.mem_of_getElem? (i := 5) rfl)) (fun _ h => h) (v := .int (bI (decide (S.1 4 jc = 0)))) (by simp [sI]) dX7_hold_23 ?_
    have hk : cHold (nI jc) = 0 := by simp [cHold, q_c, hcc]
    exact vx_ret (k_iret Z X hr hlocks bI_nar (Nat.le_of_ble_eq_true rfl) (Nat.le_of_ble_eq_true rfl) dX7_hold_26 ⟨⟨hk, by rw [vHold, hcc]⟩, rfl, by rw [oHold, vHold, hcc]⟩)
  refine lv_aload_n hx hb dX7_hold_7 rfl (lv_at hl 0 rfl) ?_
  refine k_get (index := 204) (j := 2) (ad := ad) (k := 3) (i := jc) Z X (ct_3 (by first | assumption | omega | decide)) inlX0 rfl (by decide) (inU_24 _ (List.mem_of_getElem? (i := 5) rfl)) (fun _ h => h) (v := .int (S.1 4 jc)) rfl dX7_hold_8 ?_
  refine lv_if_ne (tgt := 18) hx hb dX7_hold_11 (by decide) (fun c_11 => ?_) (fun c_11 => ?_)
  · refine lv_iconst (v := 0) hx hb dX7_hold_18 (by decide) ?_
    exact W.eq (congrArg (fun z => F0 m 19 ls (.int z :: [.ref (ad 3 jc)])) (bI_f (by simp [c_11]))) (M_19 _ _ X)
  · refine lv_iconst (v := 1) hx hb dX7_hold_14 (by decide) ?_
    refine lv_goto (tgt := 19) hx hb dX7_hold_15 (by decide) ?_
    exact W.eq (congrArg (fun z => F0 m 19 ls (.int z :: [.ref (ad 3 jc)])) (bI_t (by simp [c_11]))) (M_19 _ _ X)
theorem dX7_left_0 : decode cX7_left 0 = .ok (.aload_n 0, 1) := by decide +kernel
theorem dX7_left_1 : decode cX7_left 1 = .ok (.iload_n 1, 1) := by decide +kernel
theorem dX7_left_2 : decode cX7_left 2 = .ok (.invokevirtual 87, 3) := by decide +kernel
theorem dX7_left_5 : decode cX7_left 5 = .ok (.getfield 92, 3) := by decide +kernel
theorem dX7_left_8 : decode cX7_left 8 = .ok (.ireturn, 1) := by decide +kernel
set_option maxHeartbeats 4000000 in
set_option maxRecDepth 100000 in
theorem c_X7_left (l : Launch) (E : State) (G : kG) (S T : kSt) (o : Int64) (ad : kAd) (xc : Int32) (hE : kE l E G) (hS : okN S) (hL : okL S) : vx_Met l yX7_left (.code yX7_left cX7_left 2 (some .int) :: wsL_law) ({ frames := 14, cells := 2, slots := 12, locals := 400 } : Room) (va_Pc [.ref (ad 0 0), .int xc] (kPre E G ad (cto G S T o ad))) (kQi E G (fun r ad1 ct1 => (cLeft xc = 0 ∧ r = S.1 3 (cl xc)) ∧ ad = ad1 ∧ ct1 = cto G (S) T o ad)) (kXC E G (fun x ad1 ct1 => ((cLeft xc = 1 ∧ x = "java/lang/IndexOutOfBoundsException")) ∧ ad = ad1 ∧ ct1 = cto G S T o ad)) 2 12 (kB E.heap.size) := by
  refine vx_ofW (cc := cX7_left) (maxL := 2) (ret := (some .int)) (by decide) rfl ?_
  intro p e s m args below meth c s₁ B hml hout hv
  obtain ⟨rfl, hM, hK, hW0⟩ := hv
  have hlocks := B.notSynchronized
  have hr := B.returns
  have Z : kZ p m c cX7_left 2 s _ wsL_law RX7 E G := ⟨⟨B.exec, B.bytes, hml, findClass_of_methodNamed B.named, fun w h => atoms_spec (ws := .code yX7_left cX7_left 2 (some .int) :: wsL_law) B.pre w (List.mem_cons_of_mem _ h)⟩, hM, hK⟩
  have hx := Z.1.1
  have hb := Z.1.2.1
  have X := kX.of hW0
  have hl := lv_entry ([.ref (ad 0 0), .int xc]) (n := 2) (Nat.le_of_ble_eq_true rfl)
  rw [lg_entry_eq]
  generalize (lg_sl ([.ref (ad 0 0), .int xc]) ++ List.replicate (2 - (lg_sl ([.ref (ad 0 0), .int xc])).length) Slot.unset).toArray = ls at hl ⊢
  have hl : lv_has ls 2 [(0, .ref (ad 0 0)), (1, .int xc)] := hl
  obtain ⟨hT1, hT2, hT3, hT4, hT5, hT6, hT7⟩ := id hS
  refine lv_aload_n hx hb dX7_left_0 rfl (lv_at hl 0 rfl) ?_
  refine lv_iload_n hx hb dX7_left_1 rfl (lv_at hl 1 rfl) ?_
  refine k_xRq X (k_xrunV (As := [.int xc]) (rest := []) Z X (c_X7_channelAt l E G S T o ad xc hE hS hL) (k_cwV 1 Z.1.2.2.2.2 (inU_10 _ (List.mem_of_getElem? (i := 14) rfl)) (inU_10 _ (List.mem_of_getElem? (i := 15) rfl)) (inU_10 _ (List.mem_of_getElem? (i := 16) rfl)) (inU_1 _ (List.mem_of_getElem? (i := 2) rfl)) (inU_10 _ (List.mem_of_getElem? (i := 17) rfl)) rfl rfl (by decide +kernel) ⟨Nat.le_of_ble_eq_true rfl, Nat.le_of_ble_eq_true rfl⟩) (k_recv Z X ct_0 rfl) rfl hl.1 rfl (Nat.le_of_ble_eq_true rfl) dX7_left_2 ⟨(Nat.le_of_ble_eq_true rfl), (Nat.le_of_ble_eq_true rfl)⟩) (fun x ce q9 ad1 ct1 H locs hp X x1 x2 x3 => ?_) (fun r_2 ad1 ct1 H locs hp X => ?_)
  · obtain ⟨⟨rfl, hq⟩, ha_, hb_⟩ := hp
    rw [← ha_, hb_] at X
    have hk : cLeft xc = 1 := by simp [cLeft, hq]
    exact k_out hout hlocks X x1 x2 x3 ⟨⟨hk, rfl⟩, rfl, rfl⟩ (Nat.le_of_ble_eq_true rfl) (Nat.le_of_ble_eq_true rfl)
  obtain ⟨⟨jc, hjc, rfl, rfl⟩, ha_, hb_⟩ := hp
  rw [← ha_, hb_] at X
  have q_c : inB (nI jc) 6 = true := inB_nI hjc (by omega)
  have hcc : cl (nI jc) = jc := nI_clamp (by omega)
  refine k_get (index := 92) (j := 1) (ad := ad) (k := 3) (i := jc) Z X (ct_3 (by first | assumption | omega | decide)) inlX0 rfl (by decide) (inU_9 _ (List.mem_of_getElem? (i := 1) rfl)) (fun _ h => h) (v := .int (S.1 3 jc)) rfl dX7_left_5 ?_
  have hk : cLeft (nI jc) = 0 := by simp [cLeft, q_c, hcc]
  exact vx_ret (k_iret Z X hr hlocks rfl (Nat.le_of_ble_eq_true rfl) (Nat.le_of_ble_eq_true rfl) dX7_left_8 ⟨⟨hk, by rw [hcc]⟩, rfl, rfl⟩)
theorem dX7_taskOf_0 : decode cX7_taskOf 0 = .ok (.aload_n 0, 1) := by decide +kernel
theorem dX7_taskOf_1 : decode cX7_taskOf 1 = .ok (.iload_n 1, 1) := by decide +kernel
theorem dX7_taskOf_2 : decode cX7_taskOf 2 = .ok (.invokevirtual 187, 3) := by decide +kernel
theorem dX7_taskOf_5 : decode cX7_taskOf 5 = .ok (.getfield 196, 3) := by decide +kernel
theorem dX7_taskOf_8 : decode cX7_taskOf 8 = .ok (.ireturn, 1) := by decide +kernel
set_option maxHeartbeats 4000000 in
set_option maxRecDepth 100000 in
theorem c_X7_taskOf (l : Launch) (E : State) (G : kG) (S T : kSt) (o : Int64) (ad : kAd) (xt : Int32) (hE : kE l E G) (hS : okN S) (hL : okL S) : vx_Met l yX7_taskOf (.code yX7_taskOf cX7_taskOf 2 (some .int) :: wsL_law) ({ frames := 14, cells := 2, slots := 12, locals := 400 } : Room) (va_Pc [.ref (ad 0 0), .int xt] (kPre E G ad (cto G S T o ad))) (kQi E G (fun r ad1 ct1 => (cTaskOf S xt = 0 ∧ r = S.1 14 (cl xt)) ∧ ad = ad1 ∧ ct1 = cto G (S) T o ad)) (kXC E G (fun x ad1 ct1 => ((cTaskOf S xt = 1 ∧ x = "java/lang/IndexOutOfBoundsException")) ∧ ad = ad1 ∧ ct1 = cto G S T o ad)) 2 12 (kB E.heap.size) := by
  refine vx_ofW (cc := cX7_taskOf) (maxL := 2) (ret := (some .int)) (by decide) rfl ?_
  intro p e s m args below meth c s₁ B hml hout hv
  obtain ⟨rfl, hM, hK, hW0⟩ := hv
  have hlocks := B.notSynchronized
  have hr := B.returns
  have Z : kZ p m c cX7_taskOf 2 s _ wsL_law RX7 E G := ⟨⟨B.exec, B.bytes, hml, findClass_of_methodNamed B.named, fun w h => atoms_spec (ws := .code yX7_taskOf cX7_taskOf 2 (some .int) :: wsL_law) B.pre w (List.mem_cons_of_mem _ h)⟩, hM, hK⟩
  have hx := Z.1.1
  have hb := Z.1.2.1
  have X := kX.of hW0
  have hl := lv_entry ([.ref (ad 0 0), .int xt]) (n := 2) (Nat.le_of_ble_eq_true rfl)
  rw [lg_entry_eq]
  generalize (lg_sl ([.ref (ad 0 0), .int xt]) ++ List.replicate (2 - (lg_sl ([.ref (ad 0 0), .int xt])).length) Slot.unset).toArray = ls at hl ⊢
  have hl : lv_has ls 2 [(0, .ref (ad 0 0)), (1, .int xt)] := hl
  obtain ⟨hT1, hT2, hT3, hT4, hT5, hT6, hT7⟩ := id hS
  refine lv_aload_n hx hb dX7_taskOf_0 rfl (lv_at hl 0 rfl) ?_
  refine lv_iload_n hx hb dX7_taskOf_1 rfl (lv_at hl 1 rfl) ?_
  refine k_xRq X (k_xrunV (As := [.int xt]) (rest := []) Z X (c_X7_taskAt l E G S T o ad xt hE hS hL) (k_cwV 1 Z.1.2.2.2.2 (inU_23 _ (List.mem_of_getElem? (i := 21) rfl)) (inU_23 _ (List.mem_of_getElem? (i := 22) rfl)) (inU_23 _ (List.mem_of_getElem? (i := 23) rfl)) (inU_1 _ (List.mem_of_getElem? (i := 2) rfl)) (inU_24 _ (List.mem_of_getElem? (i := 0) rfl)) rfl rfl (by decide +kernel) ⟨Nat.le_of_ble_eq_true rfl, Nat.le_of_ble_eq_true rfl⟩) (k_recv Z X ct_0 rfl) rfl hl.1 rfl (Nat.le_of_ble_eq_true rfl) dX7_taskOf_2 ⟨(Nat.le_of_ble_eq_true rfl), (Nat.le_of_ble_eq_true rfl)⟩) (fun x ce q9 ad1 ct1 H locs hp X x1 x2 x3 => ?_) (fun r_2 ad1 ct1 H locs hp X => ?_)
  · obtain ⟨⟨rfl, hq⟩, ha_, hb_⟩ := hp
    rw [← ha_, hb_] at X
    have hk : cTaskOf S xt = 1 := by simp [cTaskOf, hq]
    exact k_out hout hlocks X x1 x2 x3 ⟨⟨hk, rfl⟩, rfl, rfl⟩ (Nat.le_of_ble_eq_true rfl) (Nat.le_of_ble_eq_true rfl)
  obtain ⟨⟨jt, hjt, rfl, rfl⟩, ha_, hb_⟩ := hp
  rw [← ha_, hb_] at X
  have q_t : inB (nI jt) (S.2 0 3) = true := inB_nI hjt (by omega)
  have hct : cl (nI jt) = jt := nI_clamp (by omega)
  have h7t := hT7 jt hjt
  refine k_get (index := 196) (j := 5) (ad := ad) (k := 9) (i := jt) Z X (ct_9 (by first | assumption | omega | decide)) inlX5 rfl (by decide) (inU_13 _ (List.mem_of_getElem? (i := 6) rfl)) (fun _ h => h) (v := .int (S.1 14 jt)) rfl dX7_taskOf_5 ?_
  have hk : cTaskOf S (nI jt) = 0 := by simp [cTaskOf, q_t, hct]
  exact vx_ret (k_iret Z X hr hlocks rfl (Nat.le_of_ble_eq_true rfl) (Nat.le_of_ble_eq_true rfl) dX7_taskOf_8 ⟨⟨hk, by rw [hct]⟩, rfl, rfl⟩)
theorem dX7_pass_0 : decode cX7_pass 0 = .ok (.iload_n 1, 1) := by decide +kernel
theorem dX7_pass_1 : decode cX7_pass 1 = .ok (.iconst 1, 1) := by decide +kernel
theorem dX7_pass_2 : decode cX7_pass 2 = .ok (.sipush 1000, 3) := by decide +kernel
theorem dX7_pass_5 : decode cX7_pass 5 = .ok (.invokestatic 55, 3) := by decide +kernel
theorem dX7_pass_8 : decode cX7_pass 8 = .ok (.aload_n 0, 1) := by decide +kernel
theorem dX7_pass_9 : decode cX7_pass 9 = .ok (.dup, 1) := by decide +kernel
theorem dX7_pass_10 : decode cX7_pass 10 = .ok (.getfield 51, 3) := by decide +kernel
theorem dX7_pass_13 : decode cX7_pass 13 = .ok (.iload_n 1, 1) := by decide +kernel
theorem dX7_pass_14 : decode cX7_pass 14 = .ok (.iadd, 1) := by decide +kernel
theorem dX7_pass_15 : decode cX7_pass 15 = .ok (.putfield 51, 3) := by decide +kernel
theorem dX7_pass_18 : decode cX7_pass 18 = .ok (.aload_n 0, 1) := by decide +kernel
theorem dX7_pass_19 : decode cX7_pass 19 = .ok (.invokevirtual 81, 3) := by decide +kernel
theorem dX7_pass_22 : decode cX7_pass 22 = .ok (.aload_n 0, 1) := by decide +kernel
theorem dX7_pass_23 : decode cX7_pass 23 = .ok (.getfield 51, 3) := by decide +kernel
theorem dX7_pass_26 : decode cX7_pass 26 = .ok (.ireturn, 1) := by decide +kernel
set_option maxHeartbeats 4000000 in
set_option maxRecDepth 100000 in
theorem c_X7_pass (l : Launch) (E : State) (G : kG) (S T : kSt) (o : Int64) (ad : kAd) (xh : Int32) (hE : kE l E G) (hS : okN S) (hL : okL S) (hK9 : okK S) : vx_Met l yX7_pass (.code yX7_pass cX7_pass 2 (some .int) :: wsL_law) ({ frames := 14, cells := 20, slots := 400, locals := 400 } : Room) (va_Pc [.ref (ad 0 0), .int xh] (kPre E G ad (cto G S T o ad))) (kQi E G (fun r ad1 ct1 => (cPass xh = 0 ∧ r = S.1 0 0 + xh) ∧ ad = ad1 ∧ ct1 = cto G (oPassC S xh) T o ad)) (kXC E G (fun x ad1 ct1 => ((cPass xh = 1 ∧ x = "java/lang/IllegalArgumentException")) ∧ ad = ad1 ∧ ct1 = cto G S T o ad)) 20 400 (kB E.heap.size) := by
  refine vx_ofW (cc := cX7_pass) (maxL := 2) (ret := (some .int)) (by decide) rfl ?_
  intro p e s m args below meth c s₁ B hml hout hv
  obtain ⟨rfl, hM, hK, hW0⟩ := hv
  have hlocks := B.notSynchronized
  have hr := B.returns
  have Z : kZ p m c cX7_pass 2 s _ wsL_law RX7 E G := ⟨⟨B.exec, B.bytes, hml, findClass_of_methodNamed B.named, fun w h => atoms_spec (ws := .code yX7_pass cX7_pass 2 (some .int) :: wsL_law) B.pre w (List.mem_cons_of_mem _ h)⟩, hM, hK⟩
  have hx := Z.1.1
  have hb := Z.1.2.1
  have X := kX.of hW0
  have hl := lv_entry ([.ref (ad 0 0), .int xh]) (n := 2) (Nat.le_of_ble_eq_true rfl)
  rw [lg_entry_eq]
  generalize (lg_sl ([.ref (ad 0 0), .int xh]) ++ List.replicate (2 - (lg_sl ([.ref (ad 0 0), .int xh])).length) Slot.unset).toArray = ls at hl ⊢
  have hl : lv_has ls 2 [(0, .ref (ad 0 0)), (1, .int xh)] := hl
  obtain ⟨hT1, hT2, hT3, hT4, hT5, hT6, hT7⟩ := id hS
  refine lv_iload_n hx hb dX7_pass_0 rfl (lv_at hl 1 rfl) ?_
  refine lv_iconst (v := 1) hx hb dX7_pass_1 (by decide) ?_
  refine lv_sipush (v := 1000) hx hb dX7_pass_2 (by decide) ?_
  refine k_xRv X (k_xrunS (As := [.int xh, .int 1, .int 1000]) (rest := []) Z X (c_X7_checkRange l E G S T o ad xh 1 1000 hE) (k_cwS 3 Z.1.2.2.2.2 (inU_6 _ (List.mem_of_getElem? (i := 16) rfl)) (inU_6 _ (List.mem_of_getElem? (i := 17) rfl)) (inU_1 _ (List.mem_of_getElem? (i := 2) rfl)) (inU_6 _ (List.mem_of_getElem? (i := 18) rfl)) rfl rfl (by decide +kernel) ⟨Nat.le_of_ble_eq_true rfl, Nat.le_of_ble_eq_true rfl⟩) rfl hl.1 rfl (Nat.le_of_ble_eq_true rfl) dX7_pass_5 ⟨(Nat.le_of_ble_eq_true rfl), (Nat.le_of_ble_eq_true rfl)⟩) (fun x ce q9 ad1 ct1 H locs hp X x1 x2 x3 => ?_) (fun ad1 ct1 H locs hp X => ?_)
  · obtain ⟨⟨rfl, hq⟩, ha_, hb_⟩ := hp
    rw [← ha_, hb_] at X
    have hk : cPass xh = 1 := by simp [cPass, hq]
    exact k_out hout hlocks X x1 x2 x3 ⟨⟨hk, rfl⟩, rfl, rfl⟩ (Nat.le_of_ble_eq_true rfl) (Nat.le_of_ble_eq_true rfl)
  obtain ⟨q_r, ha_, hb_⟩ := hp
  rw [← ha_, hb_] at X
  refine lv_aload_n hx hb dX7_pass_8 rfl (lv_at hl 0 rfl) ?_
  refine lv_dup hx hb dX7_pass_9 rfl ?_
  refine k_get (index := 51) (j := 7) (ad := ad) (k := 0) (i := 0) Z X ct_0 inlX7 rfl (by decide) (inU_2 _ (List.mem_of_getElem? (i := 10) rfl)) (fun _ h => h) (v := .int (S.1 0 0)) rfl dX7_pass_10 ?_
  refine lv_iload_n hx hb dX7_pass_13 rfl (lv_at hl 1 rfl) ?_
  refine lv_iadd hx hb dX7_pass_14 ?_
  refine k_put (index := 51) (j := 7) (k := 0) (i := 0) Z X ct_0 inlX7 tyX7_ok nmX7 rfl (by decide) (inU_2 _ (List.mem_of_getElem? (i := 10) rfl)) (fun _ h => h) rfl (Nat.le_of_ble_eq_true rfl) rfl rfl dX7_pass_15 (fun H locs X => ?_)
  have X : kX E G s H locs ad (cto G (sI S 0 0 (S.1 0 0 + xh)) T o ad) := X.eq (cs_hour _)
  refine lv_aload_n hx hb dX7_pass_18 rfl (lv_at hl 0 rfl) ?_
  refine k_Rv X (k_runV (As := []) (rest := []) Z X (c_X7_takeSpendsBack l E G (sI S 0 0 (S.1 0 0 + xh)) T o ad (okN_c sI_2 hS) (okL_c sI_2 hL) (okK_sI hK9)) (k_cwV 0 Z.1.2.2.2.2 (inU_8 _ (List.mem_of_getElem? (i := 17) rfl)) (inU_8 _ (List.mem_of_getElem? (i := 18) rfl)) (inU_8 _ (List.mem_of_getElem? (i := 19) rfl)) (inU_1 _ (List.mem_of_getElem? (i := 2) rfl)) (inU_8 _ (List.mem_of_getElem? (i := 20) rfl)) rfl rfl (by decide +kernel) ⟨Nat.le_of_ble_eq_true rfl, Nat.le_of_ble_eq_true rfl⟩) (k_recv Z X ct_0 rfl) rfl hl.1 rfl (Nat.le_of_ble_eq_true rfl) dX7_pass_19 ⟨(by first | exact Nat.le_of_ble_eq_true rfl | (show _ ≤ (_ : Nat); simp only [headSpec]; omega)), (by first | exact Nat.le_of_ble_eq_true rfl | (show _ ≤ (_ : Nat); simp only [headSpec]; omega))⟩) (fun ad1 ct1 H locs hp X => ?_)
  obtain ⟨ha_, hb_⟩ := hp
  rw [← ha_, hb_] at X
  have X : kX E G s H locs ad (cto G (stl (sI S 0 0 (S.1 0 0 + xh)) (kdS (sI S 0 0 (S.1 0 0 + xh))) (S.2 0 2)) T o ad) := X
  refine lv_aload_n hx hb dX7_pass_22 rfl (lv_at hl 0 rfl) ?_
  refine k_get (index := 51) (j := 7) (ad := ad) (k := 0) (i := 0) Z X ct_0 inlX7 rfl (by decide) (inU_2 _ (List.mem_of_getElem? (i := 10) rfl)) (fun _ h => h) (v := .int ((stl (sI S 0 0 (S.1 0 0 + xh)) (kdS (sI S 0 0 (S.1 0 0 + xh))) (S.2 0 2)).1 0 0)) rfl dX7_pass_23 ?_
  refine lv_topi (fun x_23 e_23 => ?_)
  obtain rfl : x_23 = S.1 0 0 + xh := e_23.trans (((stl_r _ _ _).2.1 0 _ (by decide) (by decide)).trans sI_s)
  have hk : cPass xh = 0 := by simp [cPass, q_r]
  exact vx_ret (k_iret Z X hr hlocks rfl (Nat.le_of_ble_eq_true rfl) (Nat.le_of_ble_eq_true rfl) dX7_pass_26 ⟨⟨hk, rfl⟩, rfl, by rw [oPassC, kdS_sI (by decide)]⟩)
