/-! LISTS: rows over tags, and ArrayList's members -/
theorem aup_id {ad : kAd} {k i : Nat} : aup ad k i (ad k i) = ad := by
  funext a b
  by_cases h : a = k ∧ b = i
  · rw [h.1, h.2, aup_s]
  · rw [aup_n h]
theorem cup_3 {ct : kCt} {k i k' i' : Nat} {x A B : va_E} : cup (cup (cup ct k i x) k' i' A) k i B = cup (cup ct k' i' A) k i B := by
  funext a b
  by_cases h : a = k ∧ b = i
  · rw [h.1, h.2, cup_s, cup_s]
  · by_cases h' : a = k' ∧ b = i'
    · rw [cup_n h, cup_n h, h'.1, h'.2, cup_s, cup_s]
    · rw [cup_n h, cup_n h', cup_n h, cup_n h, cup_n h']
theorem kX.ren {E : State} {G : kG} {s : State} {H : Heap} {locs : List Loc} {ad : kAd} {ct : kCt} {k0 i0 q : Nat} {e : va_E} (X : kX E G s H locs (aup ad k0 i0 q) (cup ct k0 i0 e)) (k i : Nat) (h0 : ct k0 i0 = none) : kX E G s H locs (aup ad k i q) (cup ct k i e) := by
  obtain ⟨⟨h1, h2, h3⟩, hS⟩ := X
  have key : ∀ (k' i' : Nat) (e' : va_E), cup ct k i e k' i' = some e' → ∃ k2 i2, cup ct k0 i0 e k2 i2 = some e' ∧ aup ad k i q k' i' = aup ad k0 i0 q k2 i2 ∧ ((k' = k ∧ i' = i ∧ k2 = k0 ∧ i2 = i0) ∨ (¬ (k' = k ∧ i' = i) ∧ ¬ (k2 = k0 ∧ i2 = i0) ∧ k2 = k' ∧ i2 = i')) := by
    intro k' i' e' hh
    by_cases hx : k' = k ∧ i' = i
    · rw [hx.1, hx.2, cup_s] at hh
      exact ⟨k0, i0, by rw [cup_s]; exact hh, by rw [hx.1, hx.2, aup_s, aup_s], Or.inl ⟨hx.1, hx.2, rfl, rfl⟩⟩
    · rw [cup_n hx] at hh
      have hn : ¬ (k' = k0 ∧ i' = i0) := fun z => by rw [z.1, z.2, h0] at hh; cases hh
      exact ⟨k', i', by rw [cup_n hn]; exact hh, by rw [aup_n hx, aup_n hn], Or.inr ⟨hx, hn, rfl, rfl⟩⟩
  refine ⟨⟨h1, fun k' i' e' hh => ?_, fun k1 i1 k2 i2 e1 e2 g1 g2 g3 => ?_⟩, hS⟩
  · obtain ⟨k2, i2, r1, r2, -⟩ := key k' i' e' hh
    rw [r2]
    exact h2 k2 i2 e' r1
  · obtain ⟨a1, b1, r1, r2, r3⟩ := key k1 i1 e1 g1
    obtain ⟨a2, b2, q1, q2, q3⟩ := key k2 i2 e2 g2
    have := h3 a1 b1 a2 b2 e1 e2 r1 q1 (by rw [← r2, ← q2]; exact g3)
    rcases r3 with ⟨x1, x2, x3, x4⟩ | ⟨x1, x2, x3, x4⟩ <;> rcases q3 with ⟨y1, y2, y3, y4⟩ | ⟨y1, y2, y3, y4⟩
    · exact ⟨x1.trans y1.symm, x2.trans y2.symm⟩
    · exact absurd ⟨this.1.symm.trans x3, this.2.symm.trans x4⟩ y2
    · exact absurd ⟨this.1.trans y3, this.2.trans y4⟩ x2
    · exact ⟨by omega, by omega⟩
section KL
variable {p : Program} {l : Launch} {e : Env} {R : Room} {s : State} {m : MethodId} {args : Array Value} {below : List Frame} {meth : Method} {c : Code} {H : Heap} {locs : List Loc} {cells slots : Nat} {Q : State → Prop}
variable {cc : ByteArray} {nL : Nat} {own : String} {E : State} {G : kG} {ad : kAd} {ct : kCt} {pc : Nat} {ls : Array Slot} {rest : List Value} {index : Nat}
theorem k_copyq {C : String} {k0 i0 k i n0 n1 q : Nat} {f g : Nat → Option Nat} (Z : kZ p m c cc nL s args wsL_law own E G) (X : kX E G s H locs ad ct) (hlink : Cond.methodLink own index arraycopyName ∈ wsL_law) (hnat : Cond.native arraycopyName ∈ wsL_law) (hstat : Cond.static arraycopyName ∈ wsL_law) (hini : Cond.initialized "java/lang/System" ∈ wsL_law) (hsz : ls.size = nL)
    (hc0 : ct k0 i0 = some (kOa G n0 f)) (hc1 : ct k i = some (kOa G n1 g)) (hq : q < 2 ^ 31) (h4 : q ≤ n0) (h5 : q ≤ n1) (hel : ∀ j : Nat, j < q → ∀ y : Nat, f j = some y → ∃ cellV : Cell, H[y]? = some cellV ∧ cellV.vm.isStatics = false ∧ s.vm.findClass C = some cellV.cls) (hcast : va_Nw (.castable C "java/lang/Object") s)
    (hcat : (rest.map fun v => v.category).sum ≤ 8) (hR : 1 ≤ R.frames ∧ 60 ≤ R.locals) (hdg : decode cc pc = .ok (.invokestatic index, 3))
    (kk : ∀ (H1 : Heap) (locs1 : List Loc), kX E G s H1 locs1 ad (cup ct k i (kOa G n1 (va_cpy f g 0 0 q))) → W p l e R s m args below meth c H1 locs1 cells slots Q (F0 m (pc + 3) ls rest)) : W p l e R s m args below meth c H locs cells slots Q (F0 m pc ls (.int (nI q) :: .int 0 :: .ref (ad k i) :: .int 0 :: .ref (ad k0 i0) :: rest)) := by
  have hN : (nI q).toNatClampNeg = q := nI_clamp hq
  have hti : (nI q).toInt = (q : Int) := nI_toInt hq
  intro T hT X9
  have hts := Z.1.2.2.2.2
  have hb := Z.1.2.1
  have x0 : H[ad k0 i0]? = some (vp_cell G.2.2.2.2.1 (n0, .inr (.inr (.inr (.inr f))))) := (X.1.2.1 k0 i0 _ hc0).1
  have x1 : H[ad k i]? = some (vp_cell G.2.2.2.2.1 (n1, .inr (.inr (.inr (.inr g))))) := (X.1.2.1 k i _ hc1).1
  have hK3 := Z.2.2.2 3 _ rfl
  obtain ⟨-, k0', hk0, cm0, hkk0⟩ := hK3.1 n0 (fun j => va_rf (f j))
  obtain ⟨-, k1, hk1, cm1, hkk1⟩ := hK3.1 n1 (fun j => va_rf (g j))
  obtain ⟨c0, t1, f1, f2, f3⟩ := Cond.castable_spec (va_Nw.use (A := args) rfl hcast)
  obtain ⟨vm', X', step⟩ := X9.arraycopy Z.1.1 Z.1.2.2.2.1 (hts _ hlink) (hts _ hnat) (hts _ hstat) (hts _ hini) (src := ad k0 i0) (dst := ad k i) (cs := vp_cell G.2.2.2.2.1 (n0, .inr (.inr (.inr (.inr f))))) (cd := vp_cell G.2.2.2.2.1 (n1, .inr (.inr (.inr (.inr g))))) (srcPos := 0) (destPos := 0) (n := nI q) (by rw [hT]; exact x0) (by rw [hT]; exact x1)
    (fun _ h => by cases h) (fun _ h => by cases h) (fun h => by cases h) (fun h => by cases h) hk0 hk1 hkk0 hkk1 rfl (by decide) (by decide) (nI_pos hq)
    (by rw [hti]; show ¬ _ > ((arrV G.2.2.2.2.1 n0 (fun j => va_rf (f j))).slots.size : Int); rw [arrV_size, Int32.toInt_zero]; omega)
    (by rw [hti]; show ¬ _ > ((arrV G.2.2.2.2.1 n1 (fun j => va_rf (g j))).slots.size : Int); rw [arrV_size, Int32.toInt_zero]; omega)
    (fun vm₁ hal j hj => by
      have hj' : j < q := by rw [hN] at hj; exact hj
      have z0 : ((0 : Int32).toNatClampNeg + j) = j := by rw [show (0 : Int32).toNatClampNeg = 0 from rfl, Nat.zero_add]
      have e : (vp_cell G.2.2.2.2.1 (n0, .inr (.inr (.inr (.inr f))))).slots.getD ((0 : Int32).toNatClampNeg + j) .null = va_rf (f j) := by
        rw [z0]
        show (arrV G.2.2.2.2.1 n0 (fun j => va_rf (f j))).slots.getD _ _ = _
        rw [Array.getD_eq_getD_getElem?, arrV_read _ _ (by omega)]
        rfl
      rw [e]
      cases hy : f j with
      | none => exact ⟨rfl, trivial⟩
      | some y =>
        obtain ⟨cellV, g1, g2, g3⟩ := hel j hj' y hy
        obtain ⟨kA, comp, r1, r2, r3, -⟩ := hK3.2
        cases hk1.symm.trans r1
        cases hkk1.symm.trans r2
        obtain ⟨kC, hkC, -⟩ := Vm.findClass_spec g3
        obtain ⟨kE', hkE, -⟩ := Vm.findClass_spec r3
        obtain ⟨kC', hkC', -⟩ := hal.2.2 _ _ hkC
        obtain ⟨kE'', hkE', -⟩ := hal.2.2 _ _ hkE
        refine ⟨rfl, cellV, (show T.heap[y]? = some cellV by rw [hT]; exact g1), (fun q h => by rw [h] at g2; cases g2), ⟨kC', hkC'⟩, ?_, ?_⟩
        · exact ⟨kE'', hkE'⟩
        · show vm₁.assignable _ _ = true
          rw [hal.assignable]
          cases f1.symm.trans g3
          cases f2.symm.trans r3
          exact f3)
    (g := F0 m pc ls (.int (nI q) :: .int 0 :: .ref (ad k i) :: .int 0 :: .ref (ad k0 i0) :: rest)) rfl (by rw [Z.1.2.2.1]; exact hsz) (rest := rest) rfl (by rw [hb]; exact hdg) hR.1 (by show 2 * 0 + _ + _ ≤ _; have hw : nativeFrameWords "java/lang/System" "arraycopy" 5 ≤ 30 := (by decide); omega)
  have e1 : copied (vp_cell G.2.2.2.2.1 (n0, .inr (.inr (.inr (.inr f))))) (vp_cell G.2.2.2.2.1 (n1, .inr (.inr (.inr (.inr g))))) 0 0 (nI q) = vp_cell G.2.2.2.2.1 (n1, .inr (.inr (.inr (.inr (va_cpy f g 0 0 q))))) := by
    rw [vp_cell_q, vp_cell_q, vp_cell_q]
    have h := va_copied (sp := 0) (dp := 0) (n := nI q) (fun z => va_rf z) G.2.2.2.2.1 G.2.2.2.2.1 (n0 := n0) (n1 := n1) f g (by rw [hN, show (0 : Int32).toNatClampNeg = 0 from rfl]; omega)
    rw [hN] at h
    exact h
  rw [e1] at X' step
  have hl : ad k i < H.size := (Array.getElem?_eq_some_iff.mp x1).1
  have hheap : ((T.setVm vm').setCell (ad k i) (vp_cell G.2.2.2.2.1 (n1, .inr (.inr (.inr (.inr (va_cpy f g 0 0 q))))))).heap = H.setIfInBounds (ad k i) (vp_cell G.2.2.2.2.1 (n1, .inr (.inr (.inr (.inr (va_cpy f g 0 0 q)))))) := by rw [← hT]; rfl
  have oq : ∀ z : Nat, z ≠ ad k i → (H.setIfInBounds (ad k i) (vp_cell G.2.2.2.2.1 (n1, .inr (.inr (.inr (.inr (va_cpy f g 0 0 q)))))))[z]? = H[z]? := fun z hz => by simp [Array.getElem?_setIfInBounds, Ne.symm hz]
  have hba := (X.1.2.1 k i _ hc1).2
  obtain ⟨t, a1, b1⟩ := kk _ _ ⟨X.1.put hc1 (by simp) (show (H.setIfInBounds (ad k i) _)[ad k i]? = some _ by simp [Array.getElem?_setIfInBounds, hl]) oq, ⟨by simp; exact X.2.1, fun z g1 g2 => by
      rw [oq z (fun e => g2 (by rw [e]; exact hba))]
      exact X.2.2.1 z g1 g2, fun z hz => by
      rcases List.mem_append.mp hz with h | h
      · exact X.2.2.2 z h
      · obtain ⟨y, -, hy⟩ := List.mem_map.mp h
        rw [← hy]
        exact hba⟩⟩ _ hheap X'
  exact ⟨t, step t a1, b1⟩
end KL
