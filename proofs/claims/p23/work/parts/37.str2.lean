/-! TEXT, further: the builder's signs as a list; String -/
def txF (l : List Nat) : Nat → Int32 := fun j => nI (l.getD j 0)
theorem txF_hi {l : List Nat} {j : Nat} (h : l.length ≤ j) : txF l j = 0 := by
  simp only [txF, List.getD_eq_getElem?_getD, List.getElem?_eq_none h]
  rfl
theorem ap_ch {l : List Nat} {k : Nat} : upd (txF l) l.length (nI k) = txF (l ++ [k]) := by
  funext j
  simp only [upd, txF, List.getD_eq_getElem?_getD, List.getElem?_append]
  by_cases h : j = l.length
  · subst h
    rw [if_pos rfl, if_neg (Nat.lt_irrefl _), Nat.sub_self]
    rfl
  · rw [if_neg h]
    by_cases h2 : j < l.length
    · rw [if_pos h2]
    · rw [if_neg h2, List.getElem?_eq_none (show l.length ≤ j by omega), List.getElem?_eq_none (show [k].length ≤ j - l.length by simp; omega)]
theorem pd_get (n : Nat) : ∀ k i, i ≤ k → (pd n k).getD i 0 = 48 + n / 10 ^ (k - i) % 10
  | 0, 0, _ => by simp [pd]
  | k + 1, 0, _ => by simp [pd]
  | k + 1, i + 1, h => by
    have ih := pd_get n k i (by omega)
    simp only [pd, List.getD_cons_succ, Nat.add_sub_add_right]
    exact ih
theorem dgs_sb {v : Nat} (h : v < 1000000) : dgs 20 v = pd v (sb_dg v - 1) := by
  unfold sb_dg
  by_cases h1 : v < 10
  · rw [if_pos h1]; exact dgs_pd 20 0 v (by decide) (show v < 10 from h1) (Or.inl rfl)
  · rw [if_neg h1]
    by_cases h2 : v < 100
    · rw [if_pos h2]; exact dgs_pd 20 1 v (by decide) (show v < 100 from h2) (Or.inr (show 10 ≤ v by omega))
    · rw [if_neg h2]
      by_cases h3 : v < 1000
      · rw [if_pos h3]; exact dgs_pd 20 2 v (by decide) (show v < 1000 from h3) (Or.inr (show 100 ≤ v by omega))
      · rw [if_neg h3]
        by_cases h4 : v < 10000
        · rw [if_pos h4]; exact dgs_pd 20 3 v (by decide) (show v < 10000 from h4) (Or.inr (show 1000 ≤ v by omega))
        · rw [if_neg h4]
          by_cases h5 : v < 100000
          · rw [if_pos h5]; exact dgs_pd 20 4 v (by decide) (show v < 100000 from h5) (Or.inr (show 10000 ≤ v by omega))
          · rw [if_neg h5, if_pos h]; exact dgs_pd 20 5 v (by decide) (show v < 1000000 from h) (Or.inr (show 100000 ≤ v by omega))
theorem dgs_sbl {v : Nat} (h : v < 1000000) : (dgs 20 v).length = sb_dg v := by
  have := (sb_dg_in v).1
  rw [dgs_sb h, pd_len]
  omega
theorem ap_dg {l : List Nat} {v : Nat} {a9 : Nat → Int32} (hv : v < 1000000) (h : dgP (txF l) l.length v a9) : a9 = txF (l ++ dgs 20 v) := by
  obtain ⟨h1, h2⟩ := h
  have hd := (sb_dg_in v).1
  have hl := dgs_sbl hv
  funext j
  by_cases a : j < l.length
  · rw [h1 j (Or.inl a)]
    simp only [txF, List.getD_eq_getElem?_getD, List.getElem?_append_left a]
  · by_cases b : l.length + sb_dg v ≤ j
    · rw [h1 j (Or.inr b), txF_hi (by omega), txF_hi (by rw [List.length_append]; omega)]
    · have e := h2 (l.length + sb_dg v - 1 - j) (by omega)
      rw [show l.length + sb_dg v - 1 - (l.length + sb_dg v - 1 - j) = j by omega] at e
      rw [e]
      simp only [txF, List.getD_eq_getElem?_getD, List.getElem?_append_right (show l.length ≤ j by omega)]
      rw [← List.getD_eq_getElem?_getD, dgs_sb hv, pd_get _ _ _ (by omega), show sb_dg v - 1 - (j - l.length) = l.length + sb_dg v - 1 - j by omega]
/-- the builder and its signs -/
def tbl (G : kG) (ad : kAd) (mb : Int32) (l : List Nat) (ct : kCt) : kCt := cup (cup ct 97 0 (.inr (1, [.ref (ad 96 0), .int 0, .int mb, .int (nI l.length)]))) 96 0 (.inl (G.2.1, 16, .inl (txF l)))
theorem tbl_s {G : kG} {ad : kAd} {mb : Int32} {l : List Nat} {ct : kCt} : tbl G ad mb l ct 97 0 = some (.inr (1, [.ref (ad 96 0), .int 0, .int mb, .int (nI l.length)])) := (cup_n (by simp)).trans cup_s
theorem tbl_b {G : kG} {ad : kAd} {mb : Int32} {l : List Nat} {ct : kCt} : tbl G ad mb l ct 96 0 = some (.inl (G.2.1, 16, .inl (txF l))) := cup_s
theorem tbl_n {G : kG} {ad : kAd} {mb : Int32} {l : List Nat} {ct : kCt} {k i : Nat} (h : ¬ k = 97 ∧ ¬ k = 96) : tbl G ad mb l ct k i = ct k i := (cup_n (fun z => h.2 z.1)).trans (cup_n (fun z => h.1 z.1))
theorem tbl_1 {G : kG} {ad : kAd} {mb : Int32} {l l' : List Nat} {ct : kCt} {n : Nat} (h : l'.length = n) : cup (cup (tbl G ad mb l ct) 97 0 (.inr (1, [.ref (ad 96 0), .int 0, .int mb, .int (nI n)]))) 96 0 (.inl (G.2.1, 16, .inl (txF l'))) = tbl G ad mb l' ct := by
  subst h
  unfold tbl
  rw [cup_sw (by simp), cup_cup, cup_sw (by simp), cup_cup]

theorem nI_byte : ∀ k, k < 128 → fits .byte (.int (nI k)) = true := by decide +kernel
theorem tx_fit {l : List Nat} (h : ∀ c ∈ l, c < 128) (j : Nat) : fits .byte (.int (txF l j)) = true := by
  refine nI_byte _ ?_
  rw [List.getD_eq_getElem?_getD]
  cases hx : l[j]? with
  | none => decide
  | some c => exact h c (List.mem_of_getElem? hx)
theorem tx_cpy {l : List Nat} : va_cpy (txF l) (fun _ => 0) 0 0 l.length = txF l := by
  funext k
  simp only [va_cpy]
  by_cases h : 0 ≤ k ∧ k < 0 + l.length
  · rw [if_pos h, Nat.zero_add, Nat.sub_zero]
  · rw [if_neg h, txF_hi (by omega)]
section KSC
variable {p : Program} {l : Launch} {e : Env} {R : Room} {s : State} {m : MethodId} {args : Array Value} {below : List Frame} {meth : Method} {c : Code} {H : Heap} {locs : List Loc} {cells slots : Nat} {Q : State → Prop}
variable {cc : ByteArray} {nL : Nat} {own : String} {E : State} {G : kG} {ad : kAd} {ct : kCt} {pc : Nat} {ls : Array Slot} {rest : List Value} {index : Nat}
theorem k_copyb {k0 i0 k i n0 n1 q : Nat} {f g : Nat → Int32} (Z : kZ p m c cc nL s args wsL_law own E G) (X : kX E G s H locs ad ct) (hlink : Cond.methodLink own index arraycopyName ∈ wsL_law) (hnat : Cond.native arraycopyName ∈ wsL_law) (hstat : Cond.static arraycopyName ∈ wsL_law) (hini : Cond.initialized "java/lang/System" ∈ wsL_law) (hsz : ls.size = nL)
    (hc0 : ct k0 i0 = some (.inl (G.2.1, n0, .inl f))) (hc1 : ct k i = some (.inl (G.2.1, n1, .inl g))) (hq : q < 2 ^ 31) (h4 : q ≤ n0) (h5 : q ≤ n1) (hfit : ∀ j, j < q → fits .byte (.int (f j)) = true)
    (hcat : (rest.map fun v => v.category).sum ≤ 8) (hR : 1 ≤ R.frames ∧ 60 ≤ R.locals) (hdg : decode cc pc = .ok (.invokestatic index, 3))
    (kk : ∀ (H1 : Heap) (locs1 : List Loc), kX E G s H1 locs1 ad (cup ct k i (.inl (G.2.1, n1, .inl (va_cpy f g 0 0 q)))) → W p l e R s m args below meth c H1 locs1 cells slots Q (F0 m (pc + 3) ls rest)) : W p l e R s m args below meth c H locs cells slots Q (F0 m pc ls (.int (nI q) :: .int 0 :: .ref (ad k i) :: .int 0 :: .ref (ad k0 i0) :: rest)) := by
  have hN : (nI q).toNatClampNeg = q := nI_clamp hq
  have hti : (nI q).toInt = (q : Int) := nI_toInt hq
  intro T hT X9
  have hts := Z.1.2.2.2.2
  have hb := Z.1.2.1
  have x0 : H[ad k0 i0]? = some (vp_cell G.2.1 (n0, .inl f)) := (X.1.2.1 k0 i0 _ hc0).1
  have x1 : H[ad k i]? = some (vp_cell G.2.1 (n1, .inl g)) := (X.1.2.1 k i _ hc1).1
  have hK3 := Z.2.2.2 0 _ rfl
  obtain ⟨-, k0', hk0, cm0, hkk0⟩ := hK3.1 n0 (fun j => .int (f j))
  obtain ⟨-, k1, hk1, cm1, hkk1⟩ := hK3.1 n1 (fun j => .int (g j))
  obtain ⟨vm', X', step⟩ := X9.arraycopy Z.1.1 Z.1.2.2.2.1 (hts _ hlink) (hts _ hnat) (hts _ hstat) (hts _ hini) (src := ad k0 i0) (dst := ad k i) (cs := vp_cell G.2.1 (n0, .inl f)) (cd := vp_cell G.2.1 (n1, .inl g)) (srcPos := 0) (destPos := 0) (n := nI q) (by rw [hT]; exact x0) (by rw [hT]; exact x1)
    (fun _ h => by cases h) (fun _ h => by cases h) (fun h => by cases h) (fun h => by cases h) hk0 hk1 hkk0 hkk1 rfl (by decide) (by decide) (nI_pos hq)
    (by rw [hti]; show ¬ _ > ((arrV G.2.1 n0 (fun j => .int (f j))).slots.size : Int); rw [arrV_size, Int32.toInt_zero]; omega)
    (by rw [hti]; show ¬ _ > ((arrV G.2.1 n1 (fun j => .int (g j))).slots.size : Int); rw [arrV_size, Int32.toInt_zero]; omega)
    (fun vm₁ _ j hj => by
      have hj' : j < q := by rw [hN] at hj; exact hj
      have e : (vp_cell G.2.1 (n0, .inl f)).slots.getD ((0 : Int32).toNatClampNeg + j) .null = .int (f j) := by
        rw [show (0 : Int32).toNatClampNeg = 0 from rfl, Nat.zero_add]
        show (arrV G.2.1 n0 (fun j => .int (f j))).slots.getD _ _ = _
        rw [Array.getD_eq_getD_getElem?, arrV_read _ _ (by omega)]
        rfl
      refine ⟨?_, ?_⟩
      · rw [e]
        exact hfit j hj'
      · rw [e]
        exact trivial)
    (g := F0 m pc ls (.int (nI q) :: .int 0 :: .ref (ad k i) :: .int 0 :: .ref (ad k0 i0) :: rest)) rfl (by rw [Z.1.2.2.1]; exact hsz) (rest := rest) rfl (by rw [hb]; exact hdg) hR.1 (by show 2 * 0 + _ + _ ≤ _; have hw : nativeFrameWords "java/lang/System" "arraycopy" 5 ≤ 30 := (by decide); omega)
  have e1 : copied (vp_cell G.2.1 (n0, .inl f)) (vp_cell G.2.1 (n1, .inl g)) 0 0 (nI q) = vp_cell G.2.1 (n1, .inl (va_cpy f g 0 0 q)) := by
    have h := va_copied (sp := 0) (dp := 0) (n := q) (fun z => .int z) G.2.1 G.2.1 (n0 := n0) (n1 := n1) f g (by omega)
    show (arrV G.2.1 n1 (fun j => .int (g j))).storeRun (0 : Int32).toNatClampNeg ((arrV G.2.1 n0 (fun j => .int (f j))).stretch (0 : Int32).toNatClampNeg (nI q).toNatClampNeg) = _
    rw [hN]
    exact h
  rw [e1] at X' step
  have hl : ad k i < H.size := (Array.getElem?_eq_some_iff.mp x1).1
  have hheap : ((T.setVm vm').setCell (ad k i) (vp_cell G.2.1 (n1, .inl (va_cpy f g 0 0 q)))).heap = H.setIfInBounds (ad k i) (vp_cell G.2.1 (n1, .inl (va_cpy f g 0 0 q))) := by rw [← hT]; rfl
  have oq : ∀ z : Nat, z ≠ ad k i → (H.setIfInBounds (ad k i) (vp_cell G.2.1 (n1, .inl (va_cpy f g 0 0 q))))[z]? = H[z]? := fun z hz => by simp [Array.getElem?_setIfInBounds, Ne.symm hz]
  have hba := (X.1.2.1 k i _ hc1).2
  obtain ⟨t, a1, b1⟩ := kk _ _ ⟨X.1.put hc1 (by simp) (show (H.setIfInBounds (ad k i) _)[ad k i]? = some _ by simp [Array.getElem?_setIfInBounds, hl]) oq, ⟨by simp; exact X.2.1, fun z g1 g2 => by
      rw [oq z (fun e => g2 (by rw [e]; exact hba))]
      exact X.2.2.1 z g1 g2, fun z hz => by
      rcases List.mem_append.mp hz with h | h
      · exact X.2.2.2 z h
      · obtain ⟨y, -, hy⟩ := List.mem_map.mp h
        rw [← hy]
        exact hba⟩⟩ _ hheap X'
  exact ⟨t, step t a1, b1⟩
theorem byte_nm {s : State} {G : kG} (hK : va_K G.1 vwCl (kTy G) s) : s.vm.findClass "[B" = some G.2.1 := (hK.2 0 _ rfl).2
theorem k_clone {k0 i0 n : Nat} {f : Nat → Int32} (k i : Nat) (Z : kZ p m c cc nL s args wsL_law own E G) (X : kX E G s H locs ad ct) (hlink : Cond.methodLink own index ⟨"[B", "clone", "()Ljava/lang/Object;"⟩ ∈ wsL_law) (hsame : Cond.sameMethod "[B" "java/lang/Object" "clone" "()Ljava/lang/Object;" ∈ wsL_law) (hnat : Cond.native ⟨"java/lang/Object", "clone", "()Ljava/lang/Object;"⟩ ∈ wsL_law) (hinst : Cond.instanceMethod ⟨"java/lang/Object", "clone", "()Ljava/lang/Object;"⟩ ∈ wsL_law)
    (hsel : Cond.selects "[B" ⟨"[B", "clone", "()Ljava/lang/Object;"⟩ ⟨"java/lang/Object", "clone", "()Ljava/lang/Object;"⟩ ∈ wsL_law) (hcl : va_Nw (.castable "[B" "java/lang/Cloneable") s) (hsz9 : ls.size = nL) (hc : ct k0 i0 = some (.inl (G.2.1, n, .inl f))) (hfit : ∀ j, j < n → fits .byte (.int (f j)) = true)
    (hcat : (rest.map fun v => v.category).sum ≤ 8) (hR : 1 ≤ R.frames ∧ 60 ≤ R.locals) (hcells : cells + 1 ≤ R.cells) (hslots : slots + n ≤ R.slots) (hdg : decode cc pc = .ok (.invokevirtual index, 3))
    (kk : ∀ (q : Nat) (H1 : Heap), kX E G s H1 locs (aup ad k i q) (cup ct k i (.inl (G.2.1, n, .inl f))) → W p l e R s m args below meth c H1 locs (cells + 1) (slots + n) Q (F0 m (pc + 3) ls (.ref q :: rest))) : W p l e R s m args below meth c H locs cells slots Q (F0 m pc ls (.ref (ad k0 i0) :: rest)) := by
  have hts := Z.1.2.2.2.2
  have hb := Z.1.2.1
  have hK := Z.2.2
  have hsz : (vp_cell G.2.1 (n, .inl f)).slots.size = n := arrV_size _ _ _
  obtain ⟨c0, t0', f1, f2, f3⟩ := Cond.castable_spec (va_Nw.use (A := args) rfl hcl)
  cases (byte_nm hK).symm.trans f1
  intro T hT X9
  have hcellT : T.heap[ad k0 i0]? = some (vp_cell G.2.1 (n, .inl f)) := by rw [hT]; exact (X.1.2.1 k0 i0 _ hc).1
  obtain ⟨-, kA, hkA, comp, hkind⟩ := State.isArrayOf_alike X9.warmed.alike ((hK.2 0 _ rfl).1 0 (fun _ => .null))
  obtain ⟨-, kS, hkS, compS, hkindS⟩ := (hK.2 0 _ rfl).1 0 (fun _ => .null)
  obtain ⟨vm', X', st⟩ := X9.cloneArray Z.1.1 Z.1.2.2.2.1 (hts _ hlink) (hts _ hsame) (hts _ hnat) (hts _ hinst) (hts _ hsel) (a := ad k0 i0) (cell := vp_cell G.2.1 (n, .inl f)) hcellT (fun k h => by cases h) (fun h => by cases h) (byte_nm hK) f2 f3
    (fun i v hv => by
      have hk' : T.vm.classes[G.2.1]? = some kA := hkA
      have hi : i < n := by
        have := (Array.getElem?_eq_some_iff.mp hv).1
        rw [hsz] at this
        exact this
      have hv2 : v = .int (f i) := by
        rw [show (vp_cell G.2.1 (n, .inl f)).slots[i]? = some (.int (f i)) from arrV_read _ _ hi] at hv
        exact (Option.some.inj hv).symm
      rw [hv2]
      simpa [State.fitsSlot, State.slotType?, vp_cell, arrV, hk', hkind] using hfit i hi)
    (g := F0 m pc ls (.ref (ad k0 i0) :: rest)) rfl (by rw [Z.1.2.2.1]; exact hsz9) rfl (by rw [hb]; exact hdg) hR.1 (by show 2 * 0 + _ + 14 ≤ _; omega) hcells (by rw [hsz]; exact hslots) (hloader := Vm.clonesLoader_of_array hkS hkindS)
  have hcellE : ({ cls := (vp_cell G.2.1 (n, .inl f)).cls, slots := (vp_cell G.2.1 (n, .inl f)).slots } : Cell) = vp_cell G.2.1 (n, .inl f) := rfl
  rw [hcellE, hsz] at X'
  generalize hH1 : H.push (vp_cell G.2.1 (n, .inl f)) = H1
  have z1 : H1.size = H.size + 1 := by rw [← hH1, Array.size_push]
  have e1 : H1[H.size]? = some (vp_cell G.2.1 (n, .inl f)) := by rw [← hH1, Array.getElem?_push_size]
  have o1 : ∀ q : Nat, q < H.size → H1[q]? = H[q]? := fun q hq => by rw [← hH1, Array.getElem?_push, if_neg (Nat.ne_of_lt hq)]
  obtain ⟨t, b1, b2⟩ := kk H.size H1 ⟨X.1.push z1 e1 o1, X.2.push z1 o1⟩ ((T.setVm vm').pushCell (vp_cell G.2.1 (n, .inl f))) (by rw [← hH1, ← hT]; rfl) X'
  refine ⟨t, st t ?_, b2⟩
  rw [hcellE, hT]
  exact b1
end KSC
theorem dJ5_append_c97b9_0 : decode cJ5_append_c97b9 0 = .ok (.aload_n 0, 1) := by decide +kernel
theorem dJ5_append_c97b9_1 : decode cJ5_append_c97b9 1 = .ok (.getfield 79, 3) := by decide +kernel
theorem dJ5_append_c97b9_4 : decode cJ5_append_c97b9 4 = .ok (.istore_n 2, 1) := by decide +kernel
theorem dJ5_append_c97b9_5 : decode cJ5_append_c97b9 5 = .ok (.iload_n 2, 1) := by decide +kernel
theorem dJ5_append_c97b9_6 : decode cJ5_append_c97b9 6 = .ok (.iload_n 1, 1) := by decide +kernel
theorem dJ5_append_c97b9_7 : decode cJ5_append_c97b9 7 = .ok (.invokestatic 245, 3) := by decide +kernel
theorem dJ5_append_c97b9_10 : decode cJ5_append_c97b9 10 = .ok (.iadd, 1) := by decide +kernel
theorem dJ5_append_c97b9_11 : decode cJ5_append_c97b9 11 = .ok (.istore_n 3, 1) := by decide +kernel
theorem dJ5_append_c97b9_12 : decode cJ5_append_c97b9 12 = .ok (.aload_n 0, 1) := by decide +kernel
theorem dJ5_append_c97b9_13 : decode cJ5_append_c97b9 13 = .ok (.iload_n 3, 1) := by decide +kernel
theorem dJ5_append_c97b9_14 : decode cJ5_append_c97b9 14 = .ok (.invokevirtual 100, 3) := by decide +kernel
theorem dJ5_append_c97b9_17 : decode cJ5_append_c97b9 17 = .ok (.aload_n 0, 1) := by decide +kernel
theorem dJ5_append_c97b9_18 : decode cJ5_append_c97b9 18 = .ok (.invokevirtual 83, 3) := by decide +kernel
theorem dJ5_append_c97b9_21 : decode cJ5_append_c97b9 21 = .ok (.ifCond .eq 16, 3) := by decide +kernel
theorem dJ5_append_c97b9_24 : decode cJ5_append_c97b9 24 = .ok (.iload_n 1, 1) := by decide +kernel
theorem dJ5_append_c97b9_25 : decode cJ5_append_c97b9 25 = .ok (.iload_n 3, 1) := by decide +kernel
theorem dJ5_append_c97b9_26 : decode cJ5_append_c97b9 26 = .ok (.aload_n 0, 1) := by decide +kernel
theorem dJ5_append_c97b9_27 : decode cJ5_append_c97b9 27 = .ok (.getfield 15, 3) := by decide +kernel
theorem dJ5_append_c97b9_30 : decode cJ5_append_c97b9 30 = .ok (.invokestatic 248, 3) := by decide +kernel
theorem dJ5_append_c97b9_33 : decode cJ5_append_c97b9 33 = .ok (.pop, 1) := by decide +kernel
theorem dJ5_append_c97b9_34 : decode cJ5_append_c97b9 34 = .ok (.goto 14, 3) := by decide +kernel
theorem dJ5_append_c97b9_37 : decode cJ5_append_c97b9 37 = .ok (.iload_n 1, 1) := by decide +kernel
theorem dJ5_append_c97b9_38 : decode cJ5_append_c97b9 38 = .ok (.iload_n 2, 1) := by decide +kernel
theorem dJ5_append_c97b9_39 : decode cJ5_append_c97b9 39 = .ok (.iload_n 3, 1) := by decide +kernel
theorem dJ5_append_c97b9_40 : decode cJ5_append_c97b9 40 = .ok (.aload_n 0, 1) := by decide +kernel
theorem dJ5_append_c97b9_41 : decode cJ5_append_c97b9 41 = .ok (.getfield 15, 3) := by decide +kernel
theorem dJ5_append_c97b9_44 : decode cJ5_append_c97b9 44 = .ok (.invokestatic 251, 3) := by decide +kernel
theorem dJ5_append_c97b9_47 : decode cJ5_append_c97b9 47 = .ok (.pop, 1) := by decide +kernel
theorem dJ5_append_c97b9_48 : decode cJ5_append_c97b9 48 = .ok (.aload_n 0, 1) := by decide +kernel
theorem dJ5_append_c97b9_49 : decode cJ5_append_c97b9 49 = .ok (.iload_n 3, 1) := by decide +kernel
theorem dJ5_append_c97b9_50 : decode cJ5_append_c97b9 50 = .ok (.putfield 79, 3) := by decide +kernel
theorem dJ5_append_c97b9_53 : decode cJ5_append_c97b9 53 = .ok (.aload_n 0, 1) := by decide +kernel
theorem dJ5_append_c97b9_54 : decode cJ5_append_c97b9 54 = .ok (.areturn, 1) := by decide +kernel
set_option maxHeartbeats 4000000 in
set_option maxRecDepth 100000 in
theorem c_J5_append_c97b9 (l : Launch) (E : State) (G : kG) (ad : kAd) (ct : kCt) (hE : kE l E G) (mb : Int32) (n : Nat) (hb0 : ct 97 0 = some (.inr (1, [.ref (ad 96 0), .int 0, .int mb, .int (nI n)]))) (f : Nat → Int32) (hv0 : ct 96 0 = some (.inl (G.2.1, 16, .inl f))) (v : Nat) (hv : v < 1000000) (hn : n + sb_dg v ≤ 16) : Met l yJ5_append_c97b9 (.code yJ5_append_c97b9 cJ5_append_c97b9 4 (some (.object "java/lang/AbstractStringBuilder")) :: wsL_law) ({ frames := 3, cells := 0, slots := 0, locals := 120 } : Room) (va_Pc [.ref (ad 97 0), .int (nI v)] (kPre E G ad ct)) (kQq E G (fun r ad1 ct1 => r = some (ad 97 0) ∧ ad = ad1 ∧ ∃ a9, dgP f n v a9 ∧ ct1 = cup (cup ct 96 0 (.inl (G.2.1, 16, .inl a9))) 97 0 (.inr (1, [.ref (ad 96 0), .int 0, .int mb, .int (nI (n + sb_dg v))])))) 0 0 (kB E.heap.size) := by
  refine Met.ofW (cc := cJ5_append_c97b9) (maxL := 4) (ret := (some (.object "java/lang/AbstractStringBuilder"))) (by decide) rfl ?_
  intro p e s m args below meth c s₁ B hml hv
  obtain ⟨rfl, hM, hK, hW0⟩ := hv
  have hlocks := B.notSynchronized
  have hr := B.returns
  have Z : kZ p m c cJ5_append_c97b9 4 s _ wsL_law RJ5 E G := ⟨⟨B.exec, B.bytes, hml, findClass_of_methodNamed B.named, fun w h => atoms_spec (ws := .code yJ5_append_c97b9 cJ5_append_c97b9 4 (some (.object "java/lang/AbstractStringBuilder")) :: wsL_law) B.pre w (List.mem_cons_of_mem _ h)⟩, hM, hK⟩
  have hx := Z.1.1
  have hb := Z.1.2.1
  have X := kX.of hW0
  have hl := lv_entry ([.ref (ad 97 0), .int (nI v)]) (n := 4) (Nat.le_of_ble_eq_true rfl)
  rw [lg_entry_eq]
  generalize (lg_sl ([.ref (ad 97 0), .int (nI v)]) ++ List.replicate (4 - (lg_sl ([.ref (ad 97 0), .int (nI v)])).length) Slot.unset).toArray = ls at hl ⊢
  have hl : lv_has ls 4 [(0, .ref (ad 97 0)), (1, .int (nI v))] := hl
  refine lv_aload_n hx hb dJ5_append_c97b9_0 rfl (lv_at hl 0 rfl) ?_
  refine k_get (index := 79) (j := 3) (ad := ad) (k := 97) (i := 0) Z X hb0 inlJ4 rfl (by decide) (inU_16 _ (List.mem_of_getElem? (i := 22) rfl)) (fun _ h => h) (v := .int (nI n)) rfl dJ5_append_c97b9_1 ?_
  refine lv_istore_n (lv' := [(2, .int (nI n)), (0, .ref (ad 97 0)), (1, .int (nI v))]) hx hb dJ5_append_c97b9_4 rfl hl (by decide) rfl (fun ls hl => ?_)
  refine lv_iload_n hx hb dJ5_append_c97b9_5 rfl (lv_at hl 0 rfl) ?_
  refine lv_iload_n hx hb dJ5_append_c97b9_6 rfl (lv_at hl 2 rfl) ?_
  refine k_Ri X (k_runS (As := [.int (nI v)]) (rest := [.int (nI n)]) Z X (c_J6_stringSize_0f7a4 l E G ad ct v hv) (k_cwS 1 Z.1.2.2.2.2 (inU_16 _ (List.mem_of_getElem? (i := 23) rfl)) (inU_17 _ (List.mem_of_getElem? (i := 0) rfl)) (inU_17 _ (List.mem_of_getElem? (i := 1) rfl)) (inU_17 _ (List.mem_of_getElem? (i := 2) rfl)) rfl rfl (by decide +kernel) ⟨Nat.le_of_ble_eq_true rfl, Nat.le_of_ble_eq_true rfl⟩) rfl hl.1 rfl (Nat.le_of_ble_eq_true rfl) dJ5_append_c97b9_7 ⟨(by first | exact Nat.le_of_ble_eq_true rfl | (show _ ≤ (_ : Nat); simp only [headSpec]; omega)), (by first | exact Nat.le_of_ble_eq_true rfl | (show _ ≤ (_ : Nat); simp only [headSpec]; omega))⟩) (fun r_7 ad1 ct1 H locs hp X => ?_)
  obtain ⟨rfl, ha_, hb_⟩ := hp
  rw [← ha_, hb_] at X
  refine lv_iadd hx hb dJ5_append_c97b9_10 ?_
  refine lv_topi (fun x_10 e_10 => ?_)
  obtain rfl : x_10 = nI (n + sb_dg v) := e_10.trans (nI_add _ _)
  refine lv_istore_n (lv' := [(3, .int (nI (n + sb_dg v))), (2, .int (nI n)), (0, .ref (ad 97 0)), (1, .int (nI v))]) hx hb dJ5_append_c97b9_11 rfl hl (by decide) rfl (fun ls hl => ?_)
  refine lv_aload_n hx hb dJ5_append_c97b9_12 rfl (lv_at hl 2 rfl) ?_
  refine lv_iload_n hx hb dJ5_append_c97b9_13 rfl (lv_at hl 0 rfl) ?_
  refine k_Rv X (k_runU (As := [.int (nI (n + sb_dg v))]) (rest := []) Z X (c_J5_ensureCapacityInternal_d00df l E G ad ct mb n hb0 f hv0 (n + sb_dg v) (by omega)) (k_cwU (owner := "java/lang/AbstractStringBuilder") (x := ⟨"java/lang/AbstractStringBuilder", "ensureCapacityInternal", "(I)V"⟩) (C := RJ4) 1 Z.1.2.2.2.2 (inU_17 _ (List.mem_of_getElem? (i := 3) rfl)) (inU_17 _ (List.mem_of_getElem? (i := 4) rfl)) (inU_17 _ (List.mem_of_getElem? (i := 5) rfl)) (inU_17 _ (List.mem_of_getElem? (i := 6) rfl)) (inU_15 _ (List.mem_of_getElem? (i := 22) rfl)) (inU_17 _ (List.mem_of_getElem? (i := 7) rfl)) rfl rfl rfl (by decide +kernel) ⟨Nat.le_of_ble_eq_true rfl, Nat.le_of_ble_eq_true rfl⟩) (k_recv Z X hb0 rfl) rfl hl.1 rfl (Nat.le_of_ble_eq_true rfl) dJ5_append_c97b9_14 ⟨(Nat.le_of_ble_eq_true rfl), (Nat.le_of_ble_eq_true rfl)⟩) (fun ad1 ct1 H locs hp X => ?_)
  obtain ⟨ha_, hb_⟩ := hp
  rw [← ha_, hb_] at X
  refine lv_aload_n hx hb dJ5_append_c97b9_17 rfl (lv_at hl 2 rfl) ?_
  refine k_Ri X (k_runU (As := []) (rest := []) Z X (c_J5_isLatin1_aae02 l E G ad ct hE mb n hb0) (k_cwU (owner := "java/lang/AbstractStringBuilder") (x := ⟨"java/lang/AbstractStringBuilder", "isLatin1", "()Z"⟩) (C := RJ4) 0 Z.1.2.2.2.2 (inU_18 _ (List.mem_of_getElem? (i := 0) rfl)) (inU_18 _ (List.mem_of_getElem? (i := 1) rfl)) (inU_18 _ (List.mem_of_getElem? (i := 2) rfl)) (inU_18 _ (List.mem_of_getElem? (i := 3) rfl)) (inU_15 _ (List.mem_of_getElem? (i := 22) rfl)) (inU_18 _ (List.mem_of_getElem? (i := 4) rfl)) rfl rfl rfl (by decide +kernel) ⟨Nat.le_of_ble_eq_true rfl, Nat.le_of_ble_eq_true rfl⟩) (k_recv Z X hb0 rfl) rfl hl.1 rfl (Nat.le_of_ble_eq_true rfl) dJ5_append_c97b9_18 ⟨(Nat.le_of_ble_eq_true rfl), (Nat.le_of_ble_eq_true rfl)⟩) (fun r_18 ad1 ct1 H locs hp X => ?_)
  obtain ⟨rfl, ha_, hb_⟩ := hp
  rw [← ha_, hb_] at X
  refine lv_if_eq (tgt := 37) hx hb dJ5_append_c97b9_21 (by decide) (fun c_21 => ?_) (fun c_21 => ?_)
  · exact absurd c_21 (by decide)
  · refine lv_iload_n hx hb dJ5_append_c97b9_24 rfl (lv_at hl 3 rfl) ?_
    refine lv_iload_n hx hb dJ5_append_c97b9_25 rfl (lv_at hl 0 rfl) ?_
    refine lv_aload_n hx hb dJ5_append_c97b9_26 rfl (lv_at hl 2 rfl) ?_
    refine k_get (index := 15) (j := 0) (ad := ad) (k := 97) (i := 0) Z X hb0 inlJ4 rfl (by decide) (inU_16 _ (List.mem_of_getElem? (i := 3) rfl)) (fun _ h => h) (v := .ref (ad 96 0)) rfl dJ5_append_c97b9_27 ?_
    refine k_Ri X (k_runS (As := [.int (nI v), .int (nI (n + sb_dg v)), .ref (ad 96 0)]) (rest := []) Z X (c_J6_getChars_ba4f3 l E G ad ct hE f hv0 n v hv hn) (k_cwS 3 Z.1.2.2.2.2 (inU_18 _ (List.mem_of_getElem? (i := 5) rfl)) (inU_18 _ (List.mem_of_getElem? (i := 6) rfl)) (inU_17 _ (List.mem_of_getElem? (i := 1) rfl)) (inU_18 _ (List.mem_of_getElem? (i := 7) rfl)) rfl rfl (by decide +kernel) ⟨Nat.le_of_ble_eq_true rfl, Nat.le_of_ble_eq_true rfl⟩) rfl hl.1 rfl (Nat.le_of_ble_eq_true rfl) dJ5_append_c97b9_30 ⟨(by first | exact Nat.le_of_ble_eq_true rfl | (show _ ≤ (_ : Nat); simp only [headSpec]; omega)), (by first | exact Nat.le_of_ble_eq_true rfl | (show _ ≤ (_ : Nat); simp only [headSpec]; omega))⟩) (fun r_30 ad1 ct1 H locs hp X => ?_)
    obtain ⟨rfl, ha_, a9, h9, hb_⟩ := hp
    rw [← ha_, hb_] at X
    refine lv_pop hx hb dJ5_append_c97b9_33 rfl ?_
    refine lv_goto (tgt := 48) hx hb dJ5_append_c97b9_34 (by decide) ?_
    refine lv_aload_n hx hb dJ5_append_c97b9_48 rfl (lv_at hl 2 rfl) ?_
    refine lv_iload_n hx hb dJ5_append_c97b9_49 rfl (lv_at hl 0 rfl) ?_
    refine k_put (index := 79) (j := 3) (k := 97) (i := 0) Z X ((cup_n (by simp)).trans hb0) inlJ4 tyJ4_ok nmJ4 rfl (by decide) (inU_16 _ (List.mem_of_getElem? (i := 22) rfl)) (fun _ h => h) rfl (Nat.le_of_ble_eq_true rfl) rfl rfl dJ5_append_c97b9_50 (fun H locs X => ?_)
    refine lv_aload_n hx hb dJ5_append_c97b9_53 rfl (lv_at hl 2 rfl) ?_
    exact k_aret (some (ad 97 0)) Z X hr hlocks (Or.inl ⟨_, rfl⟩) (Nat.le_of_ble_eq_true rfl) (Nat.le_of_ble_eq_true rfl) dJ5_append_c97b9_54 ⟨rfl, rfl, a9, h9, rfl⟩
theorem dJ4_append_bf812_0 : decode cJ4_append_bf812 0 = .ok (.aload_n 0, 1) := by decide +kernel
theorem dJ4_append_bf812_1 : decode cJ4_append_bf812 1 = .ok (.iload_n 1, 1) := by decide +kernel
theorem dJ4_append_bf812_2 : decode cJ4_append_bf812 2 = .ok (.invokespecial 53, 3) := by decide +kernel
theorem dJ4_append_bf812_5 : decode cJ4_append_bf812 5 = .ok (.pop, 1) := by decide +kernel
theorem dJ4_append_bf812_6 : decode cJ4_append_bf812 6 = .ok (.aload_n 0, 1) := by decide +kernel
theorem dJ4_append_bf812_7 : decode cJ4_append_bf812 7 = .ok (.areturn, 1) := by decide +kernel
set_option maxHeartbeats 4000000 in
set_option maxRecDepth 100000 in
theorem c_J4_append_bf812 (l : Launch) (E : State) (G : kG) (ad : kAd) (ct : kCt) (hE : kE l E G) (mb : Int32) (n : Nat) (hb0 : ct 97 0 = some (.inr (1, [.ref (ad 96 0), .int 0, .int mb, .int (nI n)]))) (f : Nat → Int32) (hv0 : ct 96 0 = some (.inl (G.2.1, 16, .inl f))) (v : Nat) (hv : v < 1000000) (hn : n + sb_dg v ≤ 16) : Met l yJ4_append_bf812 (.code yJ4_append_bf812 cJ4_append_bf812 2 (some (.object "java/lang/StringBuilder")) :: wsL_law) ({ frames := 4, cells := 0, slots := 0, locals := 160 } : Room) (va_Pc [.ref (ad 97 0), .int (nI v)] (kPre E G ad ct)) (kQq E G (fun r ad1 ct1 => r = some (ad 97 0) ∧ ad = ad1 ∧ ∃ a9, dgP f n v a9 ∧ ct1 = cup (cup ct 96 0 (.inl (G.2.1, 16, .inl a9))) 97 0 (.inr (1, [.ref (ad 96 0), .int 0, .int mb, .int (nI (n + sb_dg v))])))) 0 0 (kB E.heap.size) := by
  refine Met.ofW (cc := cJ4_append_bf812) (maxL := 2) (ret := (some (.object "java/lang/StringBuilder"))) (by decide) rfl ?_
  intro p e s m args below meth c s₁ B hml hv
  obtain ⟨rfl, hM, hK, hW0⟩ := hv
  have hlocks := B.notSynchronized
  have hr := B.returns
  have Z : kZ p m c cJ4_append_bf812 2 s _ wsL_law RJ4 E G := ⟨⟨B.exec, B.bytes, hml, findClass_of_methodNamed B.named, fun w h => atoms_spec (ws := .code yJ4_append_bf812 cJ4_append_bf812 2 (some (.object "java/lang/StringBuilder")) :: wsL_law) B.pre w (List.mem_cons_of_mem _ h)⟩, hM, hK⟩
  have hx := Z.1.1
  have hb := Z.1.2.1
  have X := kX.of hW0
  have hl := lv_entry ([.ref (ad 97 0), .int (nI v)]) (n := 2) (Nat.le_of_ble_eq_true rfl)
  rw [lg_entry_eq]
  generalize (lg_sl ([.ref (ad 97 0), .int (nI v)]) ++ List.replicate (2 - (lg_sl ([.ref (ad 97 0), .int (nI v)])).length) Slot.unset).toArray = ls at hl ⊢
  have hl : lv_has ls 2 [(0, .ref (ad 97 0)), (1, .int (nI v))] := hl
  refine lv_aload_n hx hb dJ4_append_bf812_0 rfl (lv_at hl 0 rfl) ?_
  refine lv_iload_n hx hb dJ4_append_bf812_1 rfl (lv_at hl 1 rfl) ?_
  refine k_Rq X (k_runSU (ci := 1) (As := [.int (nI v)]) (rest := []) rfl Z X (c_J5_append_c97b9 l E G ad ct hE mb n hb0 f hv0 v hv hn) (k_cwSU 1 Z.1.2.2.2.2 (inU_16 _ (List.mem_of_getElem? (i := 17) rfl)) (inU_16 _ (List.mem_of_getElem? (i := 18) rfl)) (inU_16 _ (List.mem_of_getElem? (i := 19) rfl)) (inU_16 _ (List.mem_of_getElem? (i := 20) rfl)) (inU_15 _ (List.mem_of_getElem? (i := 22) rfl)) (inU_16 _ (List.mem_of_getElem? (i := 21) rfl)) rfl rfl (by decide +kernel) ⟨Nat.le_of_ble_eq_true rfl, Nat.le_of_ble_eq_true rfl⟩) (k_recv Z X hb0 rfl) rfl hl.1 rfl (Nat.le_of_ble_eq_true rfl) dJ4_append_bf812_2 ⟨(Nat.le_of_ble_eq_true rfl), (Nat.le_of_ble_eq_true rfl)⟩) (fun r_2 ad1 ct1 H locs hp X => ?_)
  obtain ⟨rfl, ha_, hp⟩ := hp
  rw [← ha_] at X
  refine lv_pop hx hb dJ4_append_bf812_5 rfl ?_
  refine lv_aload_n hx hb dJ4_append_bf812_6 rfl (lv_at hl 0 rfl) ?_
  exact k_aret (some (ad 97 0)) Z X hr hlocks (Or.inl ⟨_, rfl⟩) (Nat.le_of_ble_eq_true rfl) (Nat.le_of_ble_eq_true rfl) dJ4_append_bf812_7 ⟨rfl, rfl, hp⟩
theorem dJ5_init_d00df_0 : decode cJ5_init_d00df 0 = .ok (.aload_n 0, 1) := by decide +kernel
theorem dJ5_init_d00df_1 : decode cJ5_init_d00df 1 = .ok (.invokespecial 3, 3) := by decide +kernel
theorem dJ5_init_d00df_4 : decode cJ5_init_d00df 4 = .ok (.getstatic 18, 3) := by decide +kernel
theorem dJ5_init_d00df_7 : decode cJ5_init_d00df 7 = .ok (.ifCond .eq 18, 3) := by decide +kernel
theorem dJ5_init_d00df_10 : decode cJ5_init_d00df 10 = .ok (.aload_n 0, 1) := by decide +kernel
theorem dJ5_init_d00df_11 : decode cJ5_init_d00df 11 = .ok (.iload_n 1, 1) := by decide +kernel
theorem dJ5_init_d00df_12 : decode cJ5_init_d00df 12 = .ok (.newarray .byte, 2) := by decide +kernel
theorem dJ5_init_d00df_14 : decode cJ5_init_d00df 14 = .ok (.putfield 15, 3) := by decide +kernel
theorem dJ5_init_d00df_17 : decode cJ5_init_d00df 17 = .ok (.aload_n 0, 1) := by decide +kernel
theorem dJ5_init_d00df_18 : decode cJ5_init_d00df 18 = .ok (.iconst 0, 1) := by decide +kernel
theorem dJ5_init_d00df_19 : decode cJ5_init_d00df 19 = .ok (.putfield 22, 3) := by decide +kernel
theorem dJ5_init_d00df_22 : decode cJ5_init_d00df 22 = .ok (.goto 16, 3) := by decide +kernel
theorem dJ5_init_d00df_25 : decode cJ5_init_d00df 25 = .ok (.aload_n 0, 1) := by decide +kernel
theorem dJ5_init_d00df_26 : decode cJ5_init_d00df 26 = .ok (.iload_n 1, 1) := by decide +kernel
theorem dJ5_init_d00df_27 : decode cJ5_init_d00df 27 = .ok (.invokestatic 26, 3) := by decide +kernel
theorem dJ5_init_d00df_30 : decode cJ5_init_d00df 30 = .ok (.putfield 15, 3) := by decide +kernel
theorem dJ5_init_d00df_33 : decode cJ5_init_d00df 33 = .ok (.aload_n 0, 1) := by decide +kernel
theorem dJ5_init_d00df_34 : decode cJ5_init_d00df 34 = .ok (.iconst 1, 1) := by decide +kernel
theorem dJ5_init_d00df_35 : decode cJ5_init_d00df 35 = .ok (.putfield 22, 3) := by decide +kernel
theorem dJ5_init_d00df_38 : decode cJ5_init_d00df 38 = .ok (.return_, 1) := by decide +kernel
set_option maxHeartbeats 4000000 in
set_option maxRecDepth 100000 in
theorem c_J5_init_d00df (l : Launch) (E : State) (G : kG) (ad : kAd) (ct : kCt) (hE : kE l E G) (hc : ct 97 0 = some (.inr (1, [.null, .int 0, .int 0, .int 0]))) : Met l yJ5_init_d00df (.code yJ5_init_d00df cJ5_init_d00df 2 none :: wsL_law) ({ frames := 2, cells := 1, slots := 16, locals := 60 } : Room) (va_Pc [.ref (ad 97 0), .int 16] (kPre E G ad ct)) (kQv E G (fun ad1 ct1 => ∃ z : Nat, ad1 = aup ad 96 0 z ∧ ct1 = cup (cup ct 96 0 (.inl (G.2.1, 16, .inl (fun _ => 0)))) 97 0 (.inr (1, [.ref z, .int 0, .int 0, .int 0])))) 1 16 (kB E.heap.size) := by
  refine Met.ofW (cc := cJ5_init_d00df) (maxL := 2) (ret := none) (by decide) rfl ?_
  intro p e s m args below meth c s₁ B hml hv
  obtain ⟨rfl, hM, hK, hW0⟩ := hv
  have hlocks := B.notSynchronized
  have hr := B.returns
  have hin : meth.name = "<init>" := (name_of_methodNamed B.named B.method).1
  have Z : kZ p m c cJ5_init_d00df 2 s _ wsL_law RJ5 E G := ⟨⟨B.exec, B.bytes, hml, findClass_of_methodNamed B.named, fun w h => atoms_spec (ws := .code yJ5_init_d00df cJ5_init_d00df 2 none :: wsL_law) B.pre w (List.mem_cons_of_mem _ h)⟩, hM, hK⟩
  have hx := Z.1.1
  have hb := Z.1.2.1
  have X := kX.of hW0
  have hl := lv_entry ([.ref (ad 97 0), .int 16]) (n := 2) (Nat.le_of_ble_eq_true rfl)
  rw [lg_entry_eq]
  generalize (lg_sl ([.ref (ad 97 0), .int 16]) ++ List.replicate (2 - (lg_sl ([.ref (ad 97 0), .int 16])).length) Slot.unset).toArray = ls at hl ⊢
  have hl : lv_has ls 2 [(0, .ref (ad 97 0)), (1, .int 16)] := hl
  refine lv_aload_n hx hb dJ5_init_d00df_0 rfl (lv_at hl 0 rfl) ?_
  refine k_objInit Z (inU_16 _ (List.mem_of_getElem? (i := 0) rfl)) (inU_1 _ (List.mem_of_getElem? (i := 13) rfl)) (inU_1 _ (List.mem_of_getElem? (i := 14) rfl)) hl.1 (Nat.le_of_ble_eq_true rfl) ⟨(Nat.le_of_ble_eq_true rfl), (Nat.le_of_ble_eq_true rfl)⟩ dJ5_init_d00df_1 ?_
  refine k_gets Z X hE.2.2.2.2.2.1 (inU_16 _ (List.mem_of_getElem? (i := 1) rfl)) (fun _ h => h) dJ5_init_d00df_4 ?_
  refine lv_if_eq (tgt := 25) hx hb dJ5_init_d00df_7 (by decide) (fun c_7 => ?_) (fun c_7 => ?_)
  · exact absurd c_7 (by decide)
  · refine lv_aload_n hx hb dJ5_init_d00df_10 rfl (lv_at hl 0 rfl) ?_
    refine lv_iload_n hx hb dJ5_init_d00df_11 rfl (lv_at hl 1 rfl) ?_
    refine k_newa (atype := .byte) (ty := .byte) (t0 := 0) (N' := 16) (a0 := (16, .inl (fun _ => 0))) 96 0 Z X (inU_16 _ (List.mem_of_getElem? (i := 2) rfl)) rfl rfl (fun h => h) rfl (by decide) rfl (by decide) (Nat.le_of_ble_eq_true rfl) (Nat.le_of_ble_eq_true rfl) dJ5_init_d00df_12 (fun z H X => ?_)
    obtain ⟨adN, hadN⟩ : ∃ y, y = aup ad 96 0 z := ⟨_, rfl⟩
    obtain ⟨ctN, hctN⟩ : ∃ y, y = cup ct 96 0 (.inl (G.2.1, 16, .inl (fun _ => 0))) := ⟨_, rfl⟩
    rw [← hadN, ← hctN] at X
    have eN : adN 96 0 = z := by rw [hadN]; exact aup_s
    subst eN
    have e0 : adN 97 0 = ad 97 0 := by rw [hadN]; exact aup_n (by simp)
    rw [← e0] at hl
    have hc : ctN 97 0 = some (.inr (1, [.null, .int 0, .int 0, .int 0])) := by rw [hctN]; exact (cup_n (by simp)).trans hc
    refine W.eq (congrArg (fun y => F0 m 14 ls [.ref (adN 96 0), .ref y]) e0.symm) ?_
    refine k_put (index := 15) (j := 0) (k := 97) (i := 0) Z X hc inlJ4 tyJ4_ok nmJ4 rfl (by decide) (inU_16 _ (List.mem_of_getElem? (i := 3) rfl)) (fun _ h => h) rfl (Nat.le_of_ble_eq_true rfl) rfl rfl dJ5_init_d00df_14 (fun H locs X => ?_)
    have X : kX E G s H locs adN (cup ctN 97 0 (.inr (1, [.ref (adN 96 0), .int 0, .int 0, .int 0]))) := kXz X rfl (by first | rfl | exact cup_cup)
    refine lv_aload_n hx hb dJ5_init_d00df_17 rfl (lv_at hl 0 rfl) ?_
    refine lv_iconst (v := 0) hx hb dJ5_init_d00df_18 (by decide) ?_
    refine k_put (index := 22) (j := 1) (k := 97) (i := 0) Z X cup_s inlJ4 tyJ4_ok nmJ4 rfl (by decide) (inU_16 _ (List.mem_of_getElem? (i := 4) rfl)) (fun _ h => h) rfl (Nat.le_of_ble_eq_true rfl) rfl rfl dJ5_init_d00df_19 (fun H locs X => ?_)
    have X : kX E G s H locs adN (cup ctN 97 0 (.inr (1, [.ref (adN 96 0), .int 0, .int 0, .int 0]))) := kXz X rfl (by first | rfl | exact cup_cup)
    refine lv_goto (tgt := 38) hx hb dJ5_init_d00df_22 (by decide) ?_
    exact k_vret Z X hr hlocks (Nat.le_of_ble_eq_true rfl) (Nat.le_of_ble_eq_true rfl) dJ5_init_d00df_38 ⟨_, hadN, by rw [hctN]⟩
theorem dJ4_init_da8c8_0 : decode cJ4_init_da8c8 0 = .ok (.aload_n 0, 1) := by decide +kernel
theorem dJ4_init_da8c8_1 : decode cJ4_init_da8c8 1 = .ok (.bipush 16, 2) := by decide +kernel
theorem dJ4_init_da8c8_3 : decode cJ4_init_da8c8 3 = .ok (.invokespecial 1, 3) := by decide +kernel
theorem dJ4_init_da8c8_6 : decode cJ4_init_da8c8 6 = .ok (.return_, 1) := by decide +kernel
set_option maxHeartbeats 4000000 in
set_option maxRecDepth 100000 in
theorem c_J4_init_da8c8 (l : Launch) (E : State) (G : kG) (ad : kAd) (ct : kCt) (hE : kE l E G) (hc : ct 97 0 = some (.inr (1, [.null, .int 0, .int 0, .int 0]))) : Met l yJ4_init_da8c8 (.code yJ4_init_da8c8 cJ4_init_da8c8 1 none :: wsL_law) ({ frames := 3, cells := 1, slots := 16, locals := 100 } : Room) (va_Pc [.ref (ad 97 0)] (kPre E G ad ct)) (kQv E G (fun ad1 ct1 => ∃ z : Nat, ad1 = aup ad 96 0 z ∧ ct1 = cup (cup ct 96 0 (.inl (G.2.1, 16, .inl (fun _ => 0)))) 97 0 (.inr (1, [.ref z, .int 0, .int 0, .int 0])))) 1 16 (kB E.heap.size) := by
  refine Met.ofW (cc := cJ4_init_da8c8) (maxL := 1) (ret := none) (by decide) rfl ?_
  intro p e s m args below meth c s₁ B hml hv
  obtain ⟨rfl, hM, hK, hW0⟩ := hv
  have hlocks := B.notSynchronized
  have hr := B.returns
  have hin : meth.name = "<init>" := (name_of_methodNamed B.named B.method).1
  have Z : kZ p m c cJ4_init_da8c8 1 s _ wsL_law RJ4 E G := ⟨⟨B.exec, B.bytes, hml, findClass_of_methodNamed B.named, fun w h => atoms_spec (ws := .code yJ4_init_da8c8 cJ4_init_da8c8 1 none :: wsL_law) B.pre w (List.mem_cons_of_mem _ h)⟩, hM, hK⟩
  have hx := Z.1.1
  have hb := Z.1.2.1
  have X := kX.of hW0
  have hl := lv_entry ([.ref (ad 97 0)]) (n := 1) (Nat.le_of_ble_eq_true rfl)
  rw [lg_entry_eq]
  generalize (lg_sl ([.ref (ad 97 0)]) ++ List.replicate (1 - (lg_sl ([.ref (ad 97 0)])).length) Slot.unset).toArray = ls at hl ⊢
  have hl : lv_has ls 1 [(0, .ref (ad 97 0))] := hl
  refine lv_aload_n hx hb dJ4_init_da8c8_0 rfl (lv_at hl 0 rfl) ?_
  refine lv_bipush (v := 16) hx hb dJ4_init_da8c8_1 (by decide) ?_
  refine k_Rv X (k_runI (As := [.int 16]) (rest := []) Z X (c_J5_init_d00df l E G ad ct hE hc) (k_cwI 1 Z.1.2.2.2.2 (inU_15 _ (List.mem_of_getElem? (i := 20) rfl)) (inU_15 _ (List.mem_of_getElem? (i := 21) rfl)) (inU_15 _ (List.mem_of_getElem? (i := 22) rfl)) (inU_15 _ (List.mem_of_getElem? (i := 23) rfl)) rfl rfl rfl (by decide +kernel) ⟨Nat.le_of_ble_eq_true rfl, Nat.le_of_ble_eq_true rfl⟩) rfl hl.1 rfl (Nat.le_of_ble_eq_true rfl) dJ4_init_da8c8_3 ⟨(by first | exact Nat.le_of_ble_eq_true rfl | (show _ ≤ (_ : Nat); simp only [headSpec]; omega)), (by first | exact Nat.le_of_ble_eq_true rfl | (show _ ≤ (_ : Nat); simp only [headSpec]; omega))⟩) (fun ad1 ct1 H locs hp X => ?_)
  obtain ⟨z, h1, h2⟩ := hp
  exact k_vret Z X hr hlocks (Nat.le_of_ble_eq_true rfl) (Nat.le_of_ble_eq_true rfl) dJ4_init_da8c8_6 ⟨z, h1, h2⟩
