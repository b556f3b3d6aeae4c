/-! LISTS: rows over tags, and ArrayList's members -/
theorem aup_id {ad : kAd} {k i : Nat} : aup ad k i (ad k i) = ad := by
  funext a b
  by_cases h : a = k ∧ b = i
  · rw [h.1, h.2, aup_s]
  · rw [aup_n h]
theorem cup_3 {ct : kCt} {k i k' i' : Nat} {x A B : va_E} : cup (cup (cup ct k i x) k' i' A) k i B = cup (cup ct k' i' A) k i B := by
  funext a b
  by_cases h : a = k ∧ b = i
  · rw [h.1, h.2, cup_s, cup_s]
  · by_cases h' : a = k' ∧ b = i'
    · rw [cup_n h, cup_n h, h'.1, h'.2, cup_s, cup_s]
    · rw [cup_n h, cup_n h', cup_n h, cup_n h, cup_n h']
theorem kX.ren {E : State} {G : kG} {s : State} {H : Heap} {locs : List Loc} {ad : kAd} {ct : kCt} {k0 i0 q : Nat} {e : va_E} (X : kX E G s H locs (aup ad k0 i0 q) (cup ct k0 i0 e)) (k i : Nat) (h0 : ct k0 i0 = none) : kX E G s H locs (aup ad k i q) (cup ct k i e) := by
  obtain ⟨⟨h1, h2, h3⟩, hS⟩ := X
  have key : ∀ (k' i' : Nat) (e' : va_E), cup ct k i e k' i' = some e' → ∃ k2 i2, cup ct k0 i0 e k2 i2 = some e' ∧ aup ad k i q k' i' = aup ad k0 i0 q k2 i2 ∧ ((k' = k ∧ i' = i ∧ k2 = k0 ∧ i2 = i0) ∨ (¬ (k' = k ∧ i' = i) ∧ ¬ (k2 = k0 ∧ i2 = i0) ∧ k2 = k' ∧ i2 = i')) := by
    intro k' i' e' hh
    by_cases hx : k' = k ∧ i' = i
    · rw [hx.1, hx.2, cup_s] at hh
      exact ⟨k0, i0, by rw [cup_s]; exact hh, by rw [hx.1, hx.2, aup_s, aup_s], Or.inl ⟨hx.1, hx.2, rfl, rfl⟩⟩
    · rw [cup_n hx] at hh
      have hn : ¬ (k' = k0 ∧ i' = i0) := fun z => by rw [z.1, z.2, h0] at hh; cases hh
      exact ⟨k', i', by rw [cup_n hn]; exact hh, by rw [aup_n hx, aup_n hn], Or.inr ⟨hx, hn, rfl, rfl⟩⟩
  refine ⟨⟨h1, fun k' i' e' hh => ?_, fun k1 i1 k2 i2 e1 e2 g1 g2 g3 => ?_⟩, hS⟩
  · obtain ⟨k2, i2, r1, r2, -⟩ := key k' i' e' hh
    rw [r2]
    exact h2 k2 i2 e' r1
  · obtain ⟨a1, b1, r1, r2, r3⟩ := key k1 i1 e1 g1
    obtain ⟨a2, b2, q1, q2, q3⟩ := key k2 i2 e2 g2
    have := h3 a1 b1 a2 b2 e1 e2 r1 q1 (by rw [← r2, ← q2]; exact g3)
    rcases r3 with ⟨x1, x2, x3, x4⟩ | ⟨x1, x2, x3, x4⟩ <;> rcases q3 with ⟨y1, y2, y3, y4⟩ | ⟨y1, y2, y3, y4⟩
    · exact ⟨x1.trans y1.symm, x2.trans y2.symm⟩
    · exact absurd ⟨this.1.symm.trans x3, this.2.symm.trans x4⟩ y2
    · exact absurd ⟨this.1.trans y3, this.2.trans y4⟩ x2
    · exact ⟨by omega, by omega⟩
section KL
variable {p : Program} {l : Launch} {e : Env} {R : Room} {s : State} {m : MethodId} {args : Array Value} {below : List Frame} {meth : Method} {c : Code} {H : Heap} {locs : List Loc} {cells slots : Nat} {Q : State → Prop}
variable {cc : ByteArray} {nL : Nat} {own : String} {E : State} {G : kG} {ad : kAd} {ct : kCt} {pc : Nat} {ls : Array Slot} {rest : List Value} {index : Nat}
theorem k_copyq {C : String} {k0 i0 k i n0 n1 q : Nat} {f g : Nat → Option Nat} (Z : kZ p m c cc nL s args wsL_law own E G) (X : kX E G s H locs ad ct) (hlink : Cond.methodLink own index arraycopyName ∈ wsL_law) (hnat : Cond.native arraycopyName ∈ wsL_law) (hstat : Cond.static arraycopyName ∈ wsL_law) (hini : Cond.initialized "java/lang/System" ∈ wsL_law) (hsz : ls.size = nL)
    (hc0 : ct k0 i0 = some (kOa G n0 f)) (hc1 : ct k i = some (kOa G n1 g)) (hq : q < 2 ^ 31) (h4 : q ≤ n0) (h5 : q ≤ n1) (hel : ∀ j : Nat, j < q → ∀ y : Nat, f j = some y → ∃ cellV : Cell, H[y]? = some cellV ∧ cellV.vm.isStatics = false ∧ s.vm.findClass C = some cellV.cls) (hcast : va_Nw (.castable C "java/lang/Object") s)
    (hcat : (rest.map fun v => v.category).sum ≤ 8) (hR : 1 ≤ R.frames ∧ 60 ≤ R.locals) (hdg : decode cc pc = .ok (.invokestatic index, 3))
    (kk : ∀ (H1 : Heap) (locs1 : List Loc), kX E G s H1 locs1 ad (cup ct k i (kOa G n1 (va_cpy f g 0 0 q))) → W p l e R s m args below meth c H1 locs1 cells slots Q (F0 m (pc + 3) ls rest)) : W p l e R s m args below meth c H locs cells slots Q (F0 m pc ls (.int (nI q) :: .int 0 :: .ref (ad k i) :: .int 0 :: .ref (ad k0 i0) :: rest)) := by
  have hN : (nI q).toNatClampNeg = q := nI_clamp hq
  have hti : (nI q).toInt = (q : Int) := nI_toInt hq
  intro T hT X9
  have hts := Z.1.2.2.2.2
  have hb := Z.1.2.1
  have x0 : H[ad k0 i0]? = some (vp_cell G.2.2.2.2.1 (n0, .inr (.inr (.inr (.inr f))))) := (X.1.2.1 k0 i0 _ hc0).1
  have x1 : H[ad k i]? = some (vp_cell G.2.2.2.2.1 (n1, .inr (.inr (.inr (.inr g))))) := (X.1.2.1 k i _ hc1).1
  have hK3 := Z.2.2.2 3 _ rfl
  obtain ⟨-, k0', hk0, cm0, hkk0⟩ := hK3.1 n0 (fun j => va_rf (f j))
  obtain ⟨-, k1, hk1, cm1, hkk1⟩ := hK3.1 n1 (fun j => va_rf (g j))
  obtain ⟨c0, t1, f1, f2, f3⟩ := Cond.castable_spec (va_Nw.use (A := args) rfl hcast)
  obtain ⟨vm', X', step⟩ := X9.arraycopy Z.1.1 Z.1.2.2.2.1 (hts _ hlink) (hts _ hnat) (hts _ hstat) (hts _ hini) (src := ad k0 i0) (dst := ad k i) (cs := vp_cell G.2.2.2.2.1 (n0, .inr (.inr (.inr (.inr f))))) (cd := vp_cell G.2.2.2.2.1 (n1, .inr (.inr (.inr (.inr g))))) (srcPos := 0) (destPos := 0) (n := nI q) (by rw [hT]; exact x0) (by rw [hT]; exact x1)
    (fun _ h => by cases h) (fun _ h => by cases h) (fun h => by cases h) (fun h => by cases h) hk0 hk1 hkk0 hkk1 rfl (by decide) (by decide) (nI_pos hq)
    (by rw [hti]; show ¬ _ > ((arrV G.2.2.2.2.1 n0 (fun j => va_rf (f j))).slots.size : Int); rw [arrV_size, Int32.toInt_zero]; omega)
    (by rw [hti]; show ¬ _ > ((arrV G.2.2.2.2.1 n1 (fun j => va_rf (g j))).slots.size : Int); rw [arrV_size, Int32.toInt_zero]; omega)
    (fun vm₁ hal j hj => by
      have hj' : j < q := by rw [hN] at hj; exact hj
      have z0 : ((0 : Int32).toNatClampNeg + j) = j := by rw [show (0 : Int32).toNatClampNeg = 0 from rfl, Nat.zero_add]
      have e : (vp_cell G.2.2.2.2.1 (n0, .inr (.inr (.inr (.inr f))))).slots.getD ((0 : Int32).toNatClampNeg + j) .null = va_rf (f j) := by
        rw [z0]
        show (arrV G.2.2.2.2.1 n0 (fun j => va_rf (f j))).slots.getD _ _ = _
        rw [Array.getD_eq_getD_getElem?, arrV_read _ _ (by omega)]
        rfl
      rw [e]
      cases hy : f j with
      | none => exact ⟨rfl, trivial⟩
      | some y =>
        obtain ⟨cellV, g1, g2, g3⟩ := hel j hj' y hy
        obtain ⟨kA, comp, r1, r2, r3, -⟩ := hK3.2
        cases hk1.symm.trans r1
        cases hkk1.symm.trans r2
        obtain ⟨kC, hkC, -⟩ := Vm.findClass_spec g3
        obtain ⟨kE', hkE, -⟩ := Vm.findClass_spec r3
        obtain ⟨kC', hkC', -⟩ := hal.2.2 _ _ hkC
        obtain ⟨kE'', hkE', -⟩ := hal.2.2 _ _ hkE
        refine ⟨rfl, cellV, (show T.heap[y]? = some cellV by rw [hT]; exact g1), (fun q h => by rw [h] at g2; cases g2), ⟨kC', hkC'⟩, ?_, ?_⟩
        · exact ⟨kE'', hkE'⟩
        · show vm₁.assignable _ _ = true
          rw [hal.assignable]
          cases f1.symm.trans g3
          cases f2.symm.trans r3
          exact f3)
    (g := F0 m pc ls (.int (nI q) :: .int 0 :: .ref (ad k i) :: .int 0 :: .ref (ad k0 i0) :: rest)) rfl (by rw [Z.1.2.2.1]; exact hsz) (rest := rest) rfl (by rw [hb]; exact hdg) hR.1 (by show 2 * 0 + _ + _ ≤ _; have hw : nativeFrameWords "java/lang/System" "arraycopy" 5 ≤ 30 := (by decide); omega)
  have e1 : copied (vp_cell G.2.2.2.2.1 (n0, .inr (.inr (.inr (.inr f))))) (vp_cell G.2.2.2.2.1 (n1, .inr (.inr (.inr (.inr g))))) 0 0 (nI q) = vp_cell G.2.2.2.2.1 (n1, .inr (.inr (.inr (.inr (va_cpy f g 0 0 q))))) := by
    have h := va_copied (sp := 0) (dp := 0) (n := q) (fun z => va_rf z) G.2.2.2.2.1 G.2.2.2.2.1 (n0 := n0) (n1 := n1) f g (by omega)
    show (arrV G.2.2.2.2.1 n1 (fun j => va_rf (g j))).storeRun (0 : Int32).toNatClampNeg ((arrV G.2.2.2.2.1 n0 (fun j => va_rf (f j))).stretch (0 : Int32).toNatClampNeg (nI q).toNatClampNeg) = _
    rw [hN]
    exact h
  rw [e1] at X' step
  have hl : ad k i < H.size := (Array.getElem?_eq_some_iff.mp x1).1
  have hheap : ((T.setVm vm').setCell (ad k i) (vp_cell G.2.2.2.2.1 (n1, .inr (.inr (.inr (.inr (va_cpy f g 0 0 q))))))).heap = H.setIfInBounds (ad k i) (vp_cell G.2.2.2.2.1 (n1, .inr (.inr (.inr (.inr (va_cpy f g 0 0 q)))))) := by rw [← hT]; rfl
  have oq : ∀ z : Nat, z ≠ ad k i → (H.setIfInBounds (ad k i) (vp_cell G.2.2.2.2.1 (n1, .inr (.inr (.inr (.inr (va_cpy f g 0 0 q)))))))[z]? = H[z]? := fun z hz => by simp [Array.getElem?_setIfInBounds, Ne.symm hz]
  have hba := (X.1.2.1 k i _ hc1).2
  obtain ⟨t, a1, b1⟩ := kk _ _ ⟨X.1.put hc1 (by simp) (show (H.setIfInBounds (ad k i) _)[ad k i]? = some _ by simp [Array.getElem?_setIfInBounds, hl]) oq, ⟨by simp; exact X.2.1, fun z g1 g2 => by
      rw [oq z (fun e => g2 (by rw [e]; exact hba))]
      exact X.2.2.1 z g1 g2, fun z hz => by
      rcases List.mem_append.mp hz with h | h
      · exact X.2.2.2 z h
      · obtain ⟨y, -, hy⟩ := List.mem_map.mp h
        rw [← hy]
        exact hba⟩⟩ _ hheap X'
  exact ⟨t, step t a1, b1⟩
end KL
def kEl (ad : kAd) (ct : kCt) (kk ci : Nat) (f : Nat → Option Nat) : Prop := ∀ (j y : Nat), f j = some y → ∃ (i : Nat) (vs : List Value), y = ad kk i ∧ ct kk i = some (.inr (ci, vs))
theorem kEl.c {ad : kAd} {ct : kCt} {kk ci : Nat} {f : Nat → Option Nat} (h : kEl ad ct kk ci f) {k i : Nat} {e : va_E} (hk : kk ≠ k) : kEl ad (cup ct k i e) kk ci f := by
  intro j y hy
  obtain ⟨i', vs, h1, h2⟩ := h j y hy
  exact ⟨i', vs, h1, by rw [cup_n (fun z => hk z.1)]; exact h2⟩
theorem kEl.a {ad : kAd} {ct : kCt} {kk ci : Nat} {f : Nat → Option Nat} (h : kEl ad ct kk ci f) {k i q : Nat} (hk : kk ≠ k) : kEl (aup ad k i q) ct kk ci f := by
  intro j y hy
  obtain ⟨i', vs, h1, h2⟩ := h j y hy
  exact ⟨i', vs, by rw [aup_n (fun z => hk z.1)]; exact h1, h2⟩
/-- what lies under two tags, one behind another -/
theorem cpy_f {f : Nat → Option Nat} {n : Nat} : va_cpy f (fun _ => none) 0 0 n = fun j => if j < n then f j else none := by
  funext j
  simp only [va_cpy, Nat.zero_add, Nat.sub_zero, Nat.zero_le, true_and]
theorem dJxa1e45_init_da8c8_0 : decode cJxa1e45_init_da8c8 0 = .ok (.aload_n 0, 1) := by decide +kernel
theorem dJxa1e45_init_da8c8_1 : decode cJxa1e45_init_da8c8 1 = .ok (.invokespecial 1, 3) := by decide +kernel
theorem dJxa1e45_init_da8c8_4 : decode cJxa1e45_init_da8c8 4 = .ok (.return_, 1) := by decide +kernel
set_option maxHeartbeats 4000000 in
set_option maxRecDepth 100000 in
theorem c_Jxa1e45_init_da8c8 (l : Launch) (E : State) (G : kG) (ad : kAd) (ct : kCt) (a : Nat) : Met l yJxa1e45_init_da8c8 (.code yJxa1e45_init_da8c8 cJxa1e45_init_da8c8 1 none :: wsL_law) ({ frames := 1, cells := 0, slots := 0, locals := 20 } : Room) (va_Pc [.ref a] (kPre E G ad ct)) (kQv E G (fun ad1 ct1 => ad = ad1 ∧ ct1 = ct)) 0 0 (kB E.heap.size) := by
  refine Met.ofW (cc := cJxa1e45_init_da8c8) (maxL := 1) (ret := none) (by decide) rfl ?_
  intro p e s m args below meth c s₁ B hml hv
  obtain ⟨rfl, hM, hK, hW0⟩ := hv
  have hlocks := B.notSynchronized
  have hr := B.returns
  have Z : kZ p m c cJxa1e45_init_da8c8 1 s _ wsL_law RJxa1e45 E G := ⟨⟨B.exec, B.bytes, hml, findClass_of_methodNamed B.named, fun w h => atoms_spec (ws := .code yJxa1e45_init_da8c8 cJxa1e45_init_da8c8 1 none :: wsL_law) B.pre w (List.mem_cons_of_mem _ h)⟩, hM, hK⟩
  have hx := Z.1.1
  have hb := Z.1.2.1
  have X := kX.of hW0
  have hl := lv_entry ([.ref a]) (n := 1) (Nat.le_of_ble_eq_true rfl)
  rw [lg_entry_eq]
  generalize (lg_sl ([.ref a]) ++ List.replicate (1 - (lg_sl ([.ref a])).length) Slot.unset).toArray = ls at hl ⊢
  have hl : lv_has ls 1 [(0, .ref a)] := hl
  refine lv_aload_n hx hb dJxa1e45_init_da8c8_0 rfl (lv_at hl 0 rfl) ?_
  refine k_objInit Z (inU_3 _ (List.mem_of_getElem? (i := 1) rfl)) (inU_1 _ (List.mem_of_getElem? (i := 13) rfl)) (inU_1 _ (List.mem_of_getElem? (i := 14) rfl)) hl.1 (Nat.le_of_ble_eq_true rfl) ⟨(Nat.le_of_ble_eq_true rfl), (Nat.le_of_ble_eq_true rfl)⟩ dJxa1e45_init_da8c8_1 ?_
  exact k_vret Z X hr hlocks (by omega) (by omega) dJxa1e45_init_da8c8_4 ⟨rfl, rfl⟩
theorem dJxc12de_init_da8c8_0 : decode cJxc12de_init_da8c8 0 = .ok (.aload_n 0, 1) := by decide +kernel
theorem dJxc12de_init_da8c8_1 : decode cJxc12de_init_da8c8 1 = .ok (.invokespecial 1, 3) := by decide +kernel
theorem dJxc12de_init_da8c8_4 : decode cJxc12de_init_da8c8 4 = .ok (.aload_n 0, 1) := by decide +kernel
theorem dJxc12de_init_da8c8_5 : decode cJxc12de_init_da8c8 5 = .ok (.iconst 0, 1) := by decide +kernel
theorem dJxc12de_init_da8c8_6 : decode cJxc12de_init_da8c8 6 = .ok (.putfield 7, 3) := by decide +kernel
theorem dJxc12de_init_da8c8_9 : decode cJxc12de_init_da8c8 9 = .ok (.return_, 1) := by decide +kernel
set_option maxHeartbeats 4000000 in
set_option maxRecDepth 100000 in
theorem c_Jxc12de_init_da8c8 (l : Launch) (E : State) (G : kG) (ad : kAd) (ct : kCt) (li : Nat) (x y z : Value) (hc : ct 1 li = some (.inr (2, [x, y, z]))) : Met l yJxc12de_init_da8c8 (.code yJxc12de_init_da8c8 cJxc12de_init_da8c8 1 none :: wsL_law) ({ frames := 2, cells := 0, slots := 0, locals := 40 } : Room) (va_Pc [.ref (ad 1 li)] (kPre E G ad ct)) (kQv E G (fun ad1 ct1 => ad = ad1 ∧ ct1 = cup ct 1 li (.inr (2, [.int 0, y, z])))) 0 0 (kB E.heap.size) := by
  refine Met.ofW (cc := cJxc12de_init_da8c8) (maxL := 1) (ret := none) (by decide) rfl ?_
  intro p e s m args below meth c s₁ B hml hv
  obtain ⟨rfl, hM, hK, hW0⟩ := hv
  have hlocks := B.notSynchronized
  have hr := B.returns
  have Z : kZ p m c cJxc12de_init_da8c8 1 s _ wsL_law RJxc12de E G := ⟨⟨B.exec, B.bytes, hml, findClass_of_methodNamed B.named, fun w h => atoms_spec (ws := .code yJxc12de_init_da8c8 cJxc12de_init_da8c8 1 none :: wsL_law) B.pre w (List.mem_cons_of_mem _ h)⟩, hM, hK⟩
  have hx := Z.1.1
  have hb := Z.1.2.1
  have X := kX.of hW0
  have hl := lv_entry ([.ref (ad 1 li)]) (n := 1) (Nat.le_of_ble_eq_true rfl)
  rw [lg_entry_eq]
  generalize (lg_sl ([.ref (ad 1 li)]) ++ List.replicate (1 - (lg_sl ([.ref (ad 1 li)])).length) Slot.unset).toArray = ls at hl ⊢
  have hl : lv_has ls 1 [(0, .ref (ad 1 li))] := hl
  refine lv_aload_n hx hb dJxc12de_init_da8c8_0 rfl (lv_at hl 0 rfl) ?_
  refine k_Rv X (k_runI (As := []) (rest := []) Z X (c_Jxa1e45_init_da8c8 l E G ad ct (ad 1 li)) (k_cwI 0 Z.1.2.2.2.2 (inU_2 _ (List.mem_of_getElem? (i := 21) rfl)) (inU_2 _ (List.mem_of_getElem? (i := 22) rfl)) (inU_2 _ (List.mem_of_getElem? (i := 23) rfl)) (inU_3 _ (List.mem_of_getElem? (i := 0) rfl)) rfl rfl rfl (by decide +kernel) ⟨Nat.le_of_ble_eq_true rfl, Nat.le_of_ble_eq_true rfl⟩) rfl hl.1 rfl (Nat.le_of_ble_eq_true rfl) dJxc12de_init_da8c8_1 ⟨(by first | exact Nat.le_of_ble_eq_true rfl | (show _ ≤ (_ : Nat); simp only [headSpec]; omega)), (by first | exact Nat.le_of_ble_eq_true rfl | (show _ ≤ (_ : Nat); simp only [headSpec]; omega))⟩) (fun ad1 ct1 H locs hp X => ?_)
  obtain ⟨ha_, hb_⟩ := hp
  rw [← ha_, hb_] at X
  refine lv_aload_n hx hb dJxc12de_init_da8c8_4 rfl (lv_at hl 0 rfl) ?_
  refine lv_iconst (v := 0) hx hb dJxc12de_init_da8c8_5 (by decide) ?_
  refine k_put (index := 7) (j := 0) (k := 1) (i := li) Z X hc inlJx4a65c tyJx4a65c_ok nmJx4a65c rfl (by decide) (inU_2 _ (List.mem_of_getElem? (i := 20) rfl)) (fun _ h => h) rfl (Nat.le_of_ble_eq_true rfl) rfl rfl dJxc12de_init_da8c8_6 (fun H locs X => ?_)
  exact k_vret Z X hr hlocks (by omega) (by omega) dJxc12de_init_da8c8_9 ⟨rfl, rfl⟩
theorem dJx4a65c_init_da8c8_0 : decode cJx4a65c_init_da8c8 0 = .ok (.aload_n 0, 1) := by decide +kernel
theorem dJx4a65c_init_da8c8_1 : decode cJx4a65c_init_da8c8 1 = .ok (.invokespecial 1, 3) := by decide +kernel
theorem dJx4a65c_init_da8c8_4 : decode cJx4a65c_init_da8c8 4 = .ok (.aload_n 0, 1) := by decide +kernel
theorem dJx4a65c_init_da8c8_5 : decode cJx4a65c_init_da8c8 5 = .ok (.getstatic 39, 3) := by decide +kernel
theorem dJx4a65c_init_da8c8_8 : decode cJx4a65c_init_da8c8 8 = .ok (.putfield 9, 3) := by decide +kernel
theorem dJx4a65c_init_da8c8_11 : decode cJx4a65c_init_da8c8 11 = .ok (.return_, 1) := by decide +kernel
set_option maxHeartbeats 4000000 in
set_option maxRecDepth 100000 in
theorem c_Jx4a65c_init_da8c8 (l : Launch) (E : State) (G : kG) (ad : kAd) (ct : kCt) (li : Nat) (x y z : Value) (hE : kE l E G) (hc : ct 1 li = some (.inr (2, [x, y, z]))) : Met l yJx4a65c_init_da8c8 (.code yJx4a65c_init_da8c8 cJx4a65c_init_da8c8 1 none :: wsL_law) ({ frames := 3, cells := 0, slots := 0, locals := 60 } : Room) (va_Pc [.ref (ad 1 li)] (kPre E G ad ct)) (kQv E G (fun ad1 ct1 => ad = ad1 ∧ ct1 = cup ct 1 li (.inr (2, [.int 0, .ref G.2.2.2.2.2.2, z])))) 0 0 (kB E.heap.size) := by
  refine Met.ofW (cc := cJx4a65c_init_da8c8) (maxL := 1) (ret := none) (by decide) rfl ?_
  intro p e s m args below meth c s₁ B hml hv
  obtain ⟨rfl, hM, hK, hW0⟩ := hv
  have hlocks := B.notSynchronized
  have hr := B.returns
  have Z : kZ p m c cJx4a65c_init_da8c8 1 s _ wsL_law RJx4a65c E G := ⟨⟨B.exec, B.bytes, hml, findClass_of_methodNamed B.named, fun w h => atoms_spec (ws := .code yJx4a65c_init_da8c8 cJx4a65c_init_da8c8 1 none :: wsL_law) B.pre w (List.mem_cons_of_mem _ h)⟩, hM, hK⟩
  have hx := Z.1.1
  have hb := Z.1.2.1
  have X := kX.of hW0
  have hl := lv_entry ([.ref (ad 1 li)]) (n := 1) (Nat.le_of_ble_eq_true rfl)
  rw [lg_entry_eq]
  generalize (lg_sl ([.ref (ad 1 li)]) ++ List.replicate (1 - (lg_sl ([.ref (ad 1 li)])).length) Slot.unset).toArray = ls at hl ⊢
  have hl : lv_has ls 1 [(0, .ref (ad 1 li))] := hl
  refine lv_aload_n hx hb dJx4a65c_init_da8c8_0 rfl (lv_at hl 0 rfl) ?_
  refine k_Rv X (k_runI (As := []) (rest := []) Z X (c_Jxc12de_init_da8c8 l E G ad ct li x y z hc) (k_cwI 0 Z.1.2.2.2.2 (inU_2 _ (List.mem_of_getElem? (i := 16) rfl)) (inU_2 _ (List.mem_of_getElem? (i := 17) rfl)) (inU_2 _ (List.mem_of_getElem? (i := 18) rfl)) (inU_2 _ (List.mem_of_getElem? (i := 19) rfl)) rfl rfl rfl (by decide +kernel) ⟨Nat.le_of_ble_eq_true rfl, Nat.le_of_ble_eq_true rfl⟩) rfl hl.1 rfl (Nat.le_of_ble_eq_true rfl) dJx4a65c_init_da8c8_1 ⟨(by first | exact Nat.le_of_ble_eq_true rfl | (show _ ≤ (_ : Nat); simp only [headSpec]; omega)), (by first | exact Nat.le_of_ble_eq_true rfl | (show _ ≤ (_ : Nat); simp only [headSpec]; omega))⟩) (fun ad1 ct1 H locs hp X => ?_)
  obtain ⟨ha_, hb_⟩ := hp
  rw [← ha_, hb_] at X
  refine lv_aload_n hx hb dJx4a65c_init_da8c8_4 rfl (lv_at hl 0 rfl) ?_
  refine k_gets Z X hE.2.2.2.2.1.1 (inU_2 _ (List.mem_of_getElem? (i := 14) rfl)) (fun _ h => h) dJx4a65c_init_da8c8_5 ?_
  refine k_put (index := 9) (j := 1) (k := 1) (i := li) Z X cup_s inlJx4a65c tyJx4a65c_ok nmJx4a65c rfl (by decide) (inU_2 _ (List.mem_of_getElem? (i := 15) rfl)) (fun _ h => h) rfl (Nat.le_of_ble_eq_true rfl) rfl rfl dJx4a65c_init_da8c8_8 (fun H locs X => ?_)
  exact k_vret Z X hr hlocks (by omega) (by omega) dJx4a65c_init_da8c8_11 ⟨rfl, cup_cup⟩
theorem dJx4a65c_size_8abf5_0 : decode cJx4a65c_size_8abf5 0 = .ok (.aload_n 0, 1) := by decide +kernel
theorem dJx4a65c_size_8abf5_1 : decode cJx4a65c_size_8abf5 1 = .ok (.getfield 48, 3) := by decide +kernel
theorem dJx4a65c_size_8abf5_4 : decode cJx4a65c_size_8abf5 4 = .ok (.ireturn, 1) := by decide +kernel
set_option maxHeartbeats 4000000 in
set_option maxRecDepth 100000 in
theorem c_Jx4a65c_size_8abf5 (l : Launch) (E : State) (G : kG) (ad : kAd) (ct : kCt) (li : Nat) (x y : Value) (z : Int32) (hc : ct 1 li = some (.inr (2, [x, y, .int z]))) : Met l yJx4a65c_size_8abf5 (.code yJx4a65c_size_8abf5 cJx4a65c_size_8abf5 1 (some .int) :: wsL_law) ({ frames := 1, cells := 0, slots := 0, locals := 20 } : Room) (va_Pc [.ref (ad 1 li)] (kPre E G ad ct)) (kQi E G (fun r ad1 ct1 => r = z ∧ ad = ad1 ∧ ct1 = ct)) 0 0 (kB E.heap.size) := by
  refine Met.ofW (cc := cJx4a65c_size_8abf5) (maxL := 1) (ret := (some .int)) (by decide) rfl ?_
  intro p e s m args below meth c s₁ B hml hv
  obtain ⟨rfl, hM, hK, hW0⟩ := hv
  have hlocks := B.notSynchronized
  have hr := B.returns
  have Z : kZ p m c cJx4a65c_size_8abf5 1 s _ wsL_law RJx4a65c E G := ⟨⟨B.exec, B.bytes, hml, findClass_of_methodNamed B.named, fun w h => atoms_spec (ws := .code yJx4a65c_size_8abf5 cJx4a65c_size_8abf5 1 (some .int) :: wsL_law) B.pre w (List.mem_cons_of_mem _ h)⟩, hM, hK⟩
  have hx := Z.1.1
  have hb := Z.1.2.1
  have X := kX.of hW0
  have hl := lv_entry ([.ref (ad 1 li)]) (n := 1) (Nat.le_of_ble_eq_true rfl)
  rw [lg_entry_eq]
  generalize (lg_sl ([.ref (ad 1 li)]) ++ List.replicate (1 - (lg_sl ([.ref (ad 1 li)])).length) Slot.unset).toArray = ls at hl ⊢
  have hl : lv_has ls 1 [(0, .ref (ad 1 li))] := hl
  refine lv_aload_n hx hb dJx4a65c_size_8abf5_0 rfl (lv_at hl 0 rfl) ?_
  refine k_get (index := 48) (j := 2) (ad := ad) (k := 1) (i := li) Z X hc inlJx4a65c rfl (by decide) (inU_3 _ (List.mem_of_getElem? (i := 13) rfl)) (fun _ h => h) (v := .int z) rfl dJx4a65c_size_8abf5_1 ?_
  exact k_iret Z X hr hlocks rfl (by omega) (by omega) dJx4a65c_size_8abf5_4 ⟨rfl, rfl, rfl⟩
theorem dJx4a65c_elementData_915e3_0 : decode cJx4a65c_elementData_915e3 0 = .ok (.aload_n 0, 1) := by decide +kernel
theorem dJx4a65c_elementData_915e3_1 : decode cJx4a65c_elementData_915e3 1 = .ok (.getfield 9, 3) := by decide +kernel
theorem dJx4a65c_elementData_915e3_4 : decode cJx4a65c_elementData_915e3 4 = .ok (.iload_n 1, 1) := by decide +kernel
theorem dJx4a65c_elementData_915e3_5 : decode cJx4a65c_elementData_915e3 5 = .ok (.aaload, 1) := by decide +kernel
theorem dJx4a65c_elementData_915e3_6 : decode cJx4a65c_elementData_915e3 6 = .ok (.areturn, 1) := by decide +kernel
set_option maxHeartbeats 4000000 in
set_option maxRecDepth 100000 in
theorem c_Jx4a65c_elementData_915e3 (l : Launch) (E : State) (G : kG) (ad : kAd) (ct : kCt) (li n cap i : Nat) (x : Value) (f : Nat → Option Nat) (hc : ct 1 li = some (.inr (2, [x, .ref (ad 2 li), .int (nI n)]))) (h2 : ct 2 li = some (kOa G cap f)) (hi : i < n) (hn : n ≤ cap) (hcap : cap < 2 ^ 31) : Met l yJx4a65c_elementData_915e3 (.code yJx4a65c_elementData_915e3 cJx4a65c_elementData_915e3 2 (some (.object "java/lang/Object")) :: wsL_law) ({ frames := 1, cells := 0, slots := 0, locals := 20 } : Room) (va_Pc [.ref (ad 1 li), .int (nI i)] (kPre E G ad ct)) (kQq E G (fun r ad1 ct1 => r = f i ∧ ad = ad1 ∧ ct1 = ct)) 0 0 (kB E.heap.size) := by
  refine Met.ofW (cc := cJx4a65c_elementData_915e3) (maxL := 2) (ret := (some (.object "java/lang/Object"))) (by decide) rfl ?_
  intro p e s m args below meth c s₁ B hml hv
  obtain ⟨rfl, hM, hK, hW0⟩ := hv
  have hlocks := B.notSynchronized
  have hr := B.returns
  have Z : kZ p m c cJx4a65c_elementData_915e3 2 s _ wsL_law RJx4a65c E G := ⟨⟨B.exec, B.bytes, hml, findClass_of_methodNamed B.named, fun w h => atoms_spec (ws := .code yJx4a65c_elementData_915e3 cJx4a65c_elementData_915e3 2 (some (.object "java/lang/Object")) :: wsL_law) B.pre w (List.mem_cons_of_mem _ h)⟩, hM, hK⟩
  have hx := Z.1.1
  have hb := Z.1.2.1
  have X := kX.of hW0
  have hl := lv_entry ([.ref (ad 1 li), .int (nI i)]) (n := 2) (Nat.le_of_ble_eq_true rfl)
  rw [lg_entry_eq]
  generalize (lg_sl ([.ref (ad 1 li), .int (nI i)]) ++ List.replicate (2 - (lg_sl ([.ref (ad 1 li), .int (nI i)])).length) Slot.unset).toArray = ls at hl ⊢
  have hl : lv_has ls 2 [(0, .ref (ad 1 li)), (1, .int (nI i))] := hl
  refine lv_aload_n hx hb dJx4a65c_elementData_915e3_0 rfl (lv_at hl 0 rfl) ?_
  refine k_get (index := 9) (j := 1) (ad := ad) (k := 1) (i := li) Z X hc inlJx4a65c rfl (by decide) (inU_2 _ (List.mem_of_getElem? (i := 15) rfl)) (fun _ h => h) (v := .ref (ad 2 li)) rfl dJx4a65c_elementData_915e3_1 ?_
  refine lv_iload_n hx hb dJx4a65c_elementData_915e3_4 rfl (lv_at hl 1 rfl) ?_
  refine k_ald Z X h2 (vp_in_nI (by omega) hcap) dJx4a65c_elementData_915e3_5 ?_
  rw [show (nI i).toNatClampNeg = i from nI_clamp (by omega)]
  exact k_aret (f i) Z X hr hlocks (Or.inl ⟨_, rfl⟩) (by omega) (by omega) dJx4a65c_elementData_915e3_6 ⟨rfl, rfl, rfl⟩
theorem dJ3_checkIndex_8e157_0 : decode cJ3_checkIndex_8e157 0 = .ok (.iload_n 0, 1) := by decide +kernel
theorem dJ3_checkIndex_8e157_1 : decode cJ3_checkIndex_8e157 1 = .ok (.ifCond .lt 8, 3) := by decide +kernel
theorem dJ3_checkIndex_8e157_4 : decode cJ3_checkIndex_8e157 4 = .ok (.iload_n 0, 1) := by decide +kernel
theorem dJ3_checkIndex_8e157_5 : decode cJ3_checkIndex_8e157 5 = .ok (.iload_n 1, 1) := by decide +kernel
theorem dJ3_checkIndex_8e157_6 : decode cJ3_checkIndex_8e157 6 = .ok (.if_icmp .lt 10, 3) := by decide +kernel
theorem dJ3_checkIndex_8e157_9 : decode cJ3_checkIndex_8e157 9 = .ok (.aload_n 2, 1) := by decide +kernel
theorem dJ3_checkIndex_8e157_10 : decode cJ3_checkIndex_8e157 10 = .ok (.iload_n 0, 1) := by decide +kernel
theorem dJ3_checkIndex_8e157_11 : decode cJ3_checkIndex_8e157 11 = .ok (.iload_n 1, 1) := by decide +kernel
theorem dJ3_checkIndex_8e157_12 : decode cJ3_checkIndex_8e157 12 = .ok (.invokestatic 95, 3) := by decide +kernel
theorem dJ3_checkIndex_8e157_15 : decode cJ3_checkIndex_8e157 15 = .ok (.athrow, 1) := by decide +kernel
theorem dJ3_checkIndex_8e157_16 : decode cJ3_checkIndex_8e157 16 = .ok (.iload_n 0, 1) := by decide +kernel
theorem dJ3_checkIndex_8e157_17 : decode cJ3_checkIndex_8e157 17 = .ok (.ireturn, 1) := by decide +kernel
set_option maxHeartbeats 4000000 in
set_option maxRecDepth 100000 in
theorem c_J3_checkIndex_8e157 (l : Launch) (E : State) (G : kG) (ad : kAd) (ct : kCt) (i n : Nat) (hi : i < n) (hn : n < 2 ^ 31) : Met l yJ3_checkIndex_8e157 (.code yJ3_checkIndex_8e157 cJ3_checkIndex_8e157 3 (some .int) :: wsL_law) ({ frames := 1, cells := 0, slots := 0, locals := 20 } : Room) (va_Pc [.int (nI i), .int (nI n), .null] (kPre E G ad ct)) (kQi E G (fun r ad1 ct1 => r = nI i ∧ ad = ad1 ∧ ct1 = ct)) 0 0 (kB E.heap.size) := by
  refine Met.ofW (cc := cJ3_checkIndex_8e157) (maxL := 3) (ret := (some .int)) (by decide) rfl ?_
  intro p e s m args below meth c s₁ B hml hv
  obtain ⟨rfl, hM, hK, hW0⟩ := hv
  have hlocks := B.notSynchronized
  have hr := B.returns
  have Z : kZ p m c cJ3_checkIndex_8e157 3 s _ wsL_law RJ3 E G := ⟨⟨B.exec, B.bytes, hml, findClass_of_methodNamed B.named, fun w h => atoms_spec (ws := .code yJ3_checkIndex_8e157 cJ3_checkIndex_8e157 3 (some .int) :: wsL_law) B.pre w (List.mem_cons_of_mem _ h)⟩, hM, hK⟩
  have hx := Z.1.1
  have hb := Z.1.2.1
  have X := kX.of hW0
  have hl := lv_entry ([.int (nI i), .int (nI n), .null]) (n := 3) (Nat.le_of_ble_eq_true rfl)
  rw [lg_entry_eq]
  generalize (lg_sl ([.int (nI i), .int (nI n), .null]) ++ List.replicate (3 - (lg_sl ([.int (nI i), .int (nI n), .null])).length) Slot.unset).toArray = ls at hl ⊢
  have hl : lv_has ls 3 [(0, .int (nI i)), (1, .int (nI n)), (2, .null)] := hl
  refine lv_iload_n hx hb dJ3_checkIndex_8e157_0 rfl (lv_at hl 0 rfl) ?_
  refine lv_if_lt (tgt := 9) hx hb dJ3_checkIndex_8e157_1 (by decide) (fun c_1 => ?_) (fun c_1 => ?_)
  · exact absurd c_1 (nI_pos (by omega))
  · refine lv_iload_n hx hb dJ3_checkIndex_8e157_4 rfl (lv_at hl 0 rfl) ?_
    refine lv_iload_n hx hb dJ3_checkIndex_8e157_5 rfl (lv_at hl 1 rfl) ?_
    refine lv_icmp_lt (tgt := 16) hx hb dJ3_checkIndex_8e157_6 (by decide) (fun c_6 => ?_) (fun c_6 => ?_)
    · refine lv_iload_n hx hb dJ3_checkIndex_8e157_16 rfl (lv_at hl 0 rfl) ?_
      exact k_iret Z X hr hlocks rfl (by omega) (by omega) dJ3_checkIndex_8e157_17 ⟨rfl, rfl, rfl⟩
    · exact absurd ((nI_ltI (by omega) hn).mpr hi) c_6
theorem dJ15_checkIndex_7cf53_0 : decode cJ15_checkIndex_7cf53 0 = .ok (.iload_n 0, 1) := by decide +kernel
theorem dJ15_checkIndex_7cf53_1 : decode cJ15_checkIndex_7cf53 1 = .ok (.iload_n 1, 1) := by decide +kernel
theorem dJ15_checkIndex_7cf53_2 : decode cJ15_checkIndex_7cf53 2 = .ok (.aconst_null, 1) := by decide +kernel
theorem dJ15_checkIndex_7cf53_3 : decode cJ15_checkIndex_7cf53 3 = .ok (.invokestatic 105, 3) := by decide +kernel
theorem dJ15_checkIndex_7cf53_6 : decode cJ15_checkIndex_7cf53 6 = .ok (.ireturn, 1) := by decide +kernel
set_option maxHeartbeats 4000000 in
set_option maxRecDepth 100000 in
theorem c_J15_checkIndex_7cf53 (l : Launch) (E : State) (G : kG) (ad : kAd) (ct : kCt) (i n : Nat) (hi : i < n) (hn : n < 2 ^ 31) : Met l yJ15_checkIndex_7cf53 (.code yJ15_checkIndex_7cf53 cJ15_checkIndex_7cf53 2 (some .int) :: wsL_law) ({ frames := 2, cells := 0, slots := 0, locals := 45 } : Room) (va_Pc [.int (nI i), .int (nI n)] (kPre E G ad ct)) (kQi E G (fun r ad1 ct1 => r = nI i ∧ ad = ad1 ∧ ct1 = ct)) 0 0 (kB E.heap.size) := by
  refine Met.ofW (cc := cJ15_checkIndex_7cf53) (maxL := 2) (ret := (some .int)) (by decide) rfl ?_
  intro p e s m args below meth c s₁ B hml hv
  obtain ⟨rfl, hM, hK, hW0⟩ := hv
  have hlocks := B.notSynchronized
  have hr := B.returns
  have Z : kZ p m c cJ15_checkIndex_7cf53 2 s _ wsL_law RJ15 E G := ⟨⟨B.exec, B.bytes, hml, findClass_of_methodNamed B.named, fun w h => atoms_spec (ws := .code yJ15_checkIndex_7cf53 cJ15_checkIndex_7cf53 2 (some .int) :: wsL_law) B.pre w (List.mem_cons_of_mem _ h)⟩, hM, hK⟩
  have hx := Z.1.1
  have hb := Z.1.2.1
  have X := kX.of hW0
  have hl := lv_entry ([.int (nI i), .int (nI n)]) (n := 2) (Nat.le_of_ble_eq_true rfl)
  rw [lg_entry_eq]
  generalize (lg_sl ([.int (nI i), .int (nI n)]) ++ List.replicate (2 - (lg_sl ([.int (nI i), .int (nI n)])).length) Slot.unset).toArray = ls at hl ⊢
  have hl : lv_has ls 2 [(0, .int (nI i)), (1, .int (nI n))] := hl
  refine lv_iload_n hx hb dJ15_checkIndex_7cf53_0 rfl (lv_at hl 0 rfl) ?_
  refine lv_iload_n hx hb dJ15_checkIndex_7cf53_1 rfl (lv_at hl 1 rfl) ?_
  refine lv_null hx hb dJ15_checkIndex_7cf53_2 ?_
  refine k_Ri X (k_runS (As := [.int (nI i), .int (nI n), .null]) (rest := []) Z X (c_J3_checkIndex_8e157 l E G ad ct i n hi hn) (k_cwS 3 Z.1.2.2.2.2 (inU_8 _ (List.mem_of_getElem? (i := 9) rfl)) (inU_8 _ (List.mem_of_getElem? (i := 10) rfl)) (inU_8 _ (List.mem_of_getElem? (i := 11) rfl)) (inU_8 _ (List.mem_of_getElem? (i := 12) rfl)) rfl rfl (by decide +kernel) ⟨Nat.le_of_ble_eq_true rfl, Nat.le_of_ble_eq_true rfl⟩) rfl hl.1 rfl (Nat.le_of_ble_eq_true rfl) dJ15_checkIndex_7cf53_3 ⟨(by first | exact Nat.le_of_ble_eq_true rfl | (show _ ≤ (_ : Nat); simp only [headSpec]; omega)), (by first | exact Nat.le_of_ble_eq_true rfl | (show _ ≤ (_ : Nat); simp only [headSpec]; omega))⟩) (fun r_3 ad1 ct1 H locs hp X => ?_)
  obtain ⟨rfl, ha_, hb_⟩ := hp
  rw [← ha_, hb_] at X
  exact k_iret Z X hr hlocks rfl (by omega) (by omega) dJ15_checkIndex_7cf53_6 ⟨rfl, rfl, rfl⟩
theorem dJx4a65c_get_915e3_0 : decode cJx4a65c_get_915e3 0 = .ok (.iload_n 1, 1) := by decide +kernel
theorem dJx4a65c_get_915e3_1 : decode cJx4a65c_get_915e3 1 = .ok (.aload_n 0, 1) := by decide +kernel
theorem dJx4a65c_get_915e3_2 : decode cJx4a65c_get_915e3 2 = .ok (.getfield 48, 3) := by decide +kernel
theorem dJx4a65c_get_915e3_5 : decode cJx4a65c_get_915e3 5 = .ok (.invokestatic 118, 3) := by decide +kernel
theorem dJx4a65c_get_915e3_8 : decode cJx4a65c_get_915e3 8 = .ok (.pop, 1) := by decide +kernel
theorem dJx4a65c_get_915e3_9 : decode cJx4a65c_get_915e3 9 = .ok (.aload_n 0, 1) := by decide +kernel
theorem dJx4a65c_get_915e3_10 : decode cJx4a65c_get_915e3 10 = .ok (.iload_n 1, 1) := by decide +kernel
theorem dJx4a65c_get_915e3_11 : decode cJx4a65c_get_915e3 11 = .ok (.invokevirtual 123, 3) := by decide +kernel
theorem dJx4a65c_get_915e3_14 : decode cJx4a65c_get_915e3 14 = .ok (.areturn, 1) := by decide +kernel
set_option maxHeartbeats 4000000 in
set_option maxRecDepth 100000 in
theorem c_Jx4a65c_get_915e3 (l : Launch) (E : State) (G : kG) (ad : kAd) (ct : kCt) (li n cap i : Nat) (x : Value) (f : Nat → Option Nat) (hc : ct 1 li = some (.inr (2, [x, .ref (ad 2 li), .int (nI n)]))) (h2 : ct 2 li = some (kOa G cap f)) (hi : i < n) (hn : n ≤ cap) (hcap : cap < 2 ^ 31) : Met l yJx4a65c_get_915e3 (.code yJx4a65c_get_915e3 cJx4a65c_get_915e3 2 (some (.object "java/lang/Object")) :: wsL_law) ({ frames := 3, cells := 0, slots := 0, locals := 70 } : Room) (va_Pc [.ref (ad 1 li), .int (nI i)] (kPre E G ad ct)) (kQq E G (fun r ad1 ct1 => r = f i ∧ ad = ad1 ∧ ct1 = ct)) 0 0 (kB E.heap.size) := by
  refine Met.ofW (cc := cJx4a65c_get_915e3) (maxL := 2) (ret := (some (.object "java/lang/Object"))) (by decide) rfl ?_
  intro p e s m args below meth c s₁ B hml hv
  obtain ⟨rfl, hM, hK, hW0⟩ := hv
  have hlocks := B.notSynchronized
  have hr := B.returns
  have Z : kZ p m c cJx4a65c_get_915e3 2 s _ wsL_law RJx4a65c E G := ⟨⟨B.exec, B.bytes, hml, findClass_of_methodNamed B.named, fun w h => atoms_spec (ws := .code yJx4a65c_get_915e3 cJx4a65c_get_915e3 2 (some (.object "java/lang/Object")) :: wsL_law) B.pre w (List.mem_cons_of_mem _ h)⟩, hM, hK⟩
  have hx := Z.1.1
  have hb := Z.1.2.1
  have X := kX.of hW0
  have hl := lv_entry ([.ref (ad 1 li), .int (nI i)]) (n := 2) (Nat.le_of_ble_eq_true rfl)
  rw [lg_entry_eq]
  generalize (lg_sl ([.ref (ad 1 li), .int (nI i)]) ++ List.replicate (2 - (lg_sl ([.ref (ad 1 li), .int (nI i)])).length) Slot.unset).toArray = ls at hl ⊢
  have hl : lv_has ls 2 [(0, .ref (ad 1 li)), (1, .int (nI i))] := hl
  refine lv_iload_n hx hb dJx4a65c_get_915e3_0 rfl (lv_at hl 1 rfl) ?_
  refine lv_aload_n hx hb dJx4a65c_get_915e3_1 rfl (lv_at hl 0 rfl) ?_
  refine k_get (index := 48) (j := 2) (ad := ad) (k := 1) (i := li) Z X hc inlJx4a65c rfl (by decide) (inU_3 _ (List.mem_of_getElem? (i := 13) rfl)) (fun _ h => h) (v := .int (nI n)) rfl dJx4a65c_get_915e3_2 ?_
  refine k_Ri X (k_runS (As := [.int (nI i), .int (nI n)]) (rest := []) Z X (c_J15_checkIndex_7cf53 l E G ad ct i n hi (by omega)) (k_cwS 2 Z.1.2.2.2.2 (inU_8 _ (List.mem_of_getElem? (i := 5) rfl)) (inU_8 _ (List.mem_of_getElem? (i := 6) rfl)) (inU_8 _ (List.mem_of_getElem? (i := 7) rfl)) (inU_8 _ (List.mem_of_getElem? (i := 8) rfl)) rfl rfl (by decide +kernel) ⟨Nat.le_of_ble_eq_true rfl, Nat.le_of_ble_eq_true rfl⟩) rfl hl.1 rfl (Nat.le_of_ble_eq_true rfl) dJx4a65c_get_915e3_5 ⟨(by first | exact Nat.le_of_ble_eq_true rfl | (show _ ≤ (_ : Nat); simp only [headSpec]; omega)), (by first | exact Nat.le_of_ble_eq_true rfl | (show _ ≤ (_ : Nat); simp only [headSpec]; omega))⟩) (fun r_5 ad1 ct1 H locs hp X => ?_)
  obtain ⟨rfl, ha_, hb_⟩ := hp
  rw [← ha_, hb_] at X
  refine lv_pop hx hb dJx4a65c_get_915e3_8 rfl ?_
  refine lv_aload_n hx hb dJx4a65c_get_915e3_9 rfl (lv_at hl 0 rfl) ?_
  refine lv_iload_n hx hb dJx4a65c_get_915e3_10 rfl (lv_at hl 1 rfl) ?_
  refine k_Rq X (k_runV (As := [.int (nI i)]) (rest := []) Z X (c_Jx4a65c_elementData_915e3 l E G ad ct li n cap i x f hc h2 hi hn hcap) (k_cwV 1 Z.1.2.2.2.2 (inU_8 _ (List.mem_of_getElem? (i := 13) rfl)) (inU_8 _ (List.mem_of_getElem? (i := 14) rfl)) (inU_8 _ (List.mem_of_getElem? (i := 15) rfl)) (inU_1 _ (List.mem_of_getElem? (i := 17) rfl)) (inU_8 _ (List.mem_of_getElem? (i := 16) rfl)) rfl rfl (by decide +kernel) ⟨Nat.le_of_ble_eq_true rfl, Nat.le_of_ble_eq_true rfl⟩) (k_recv Z X hc rfl) rfl hl.1 rfl (Nat.le_of_ble_eq_true rfl) dJx4a65c_get_915e3_11 ⟨(by first | exact Nat.le_of_ble_eq_true rfl | (show _ ≤ (_ : Nat); simp only [headSpec]; omega)), (by first | exact Nat.le_of_ble_eq_true rfl | (show _ ≤ (_ : Nat); simp only [headSpec]; omega))⟩) (fun r_11 ad1 ct1 H locs hp X => ?_)
  obtain ⟨rfl, ha_, hb_⟩ := hp
  rw [← ha_, hb_] at X
  exact k_aret (f i) Z X hr hlocks (Or.inl ⟨_, rfl⟩) (by omega) (by omega) dJx4a65c_get_915e3_14 ⟨rfl, rfl, rfl⟩
