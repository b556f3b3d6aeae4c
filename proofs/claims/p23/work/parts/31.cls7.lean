/-! THE CLASS: what makes things, further -/
def eqx (k0 i0 : Nat) (ct ct' : kCt) : Prop := ∀ k i, ¬ (k = k0 ∧ i = i0) → ct k i = ct' k i
theorem eqx.cp {k0 i0 a b : Nat} {ct ct' : kCt} {e : va_E} (h : eqx k0 i0 ct ct') : eqx k0 i0 (cup ct a b e) (cup ct' a b e) := by
  intro k i hn
  by_cases z : k = a ∧ i = b
  · rw [z.1, z.2, cup_s, cup_s]
  · rw [cup_n z, cup_n z]; exact h k i hn
theorem eqx.fin {k0 i0 : Nat} {ct ct' : kCt} {e : va_E} (h : eqx k0 i0 ct ct') : cup ct k0 i0 e = cup ct' k0 i0 e := by
  funext k i
  by_cases z : k = k0 ∧ i = i0
  · rw [z.1, z.2, cup_s, cup_s]
  · rw [cup_n z, cup_n z]; exact h k i z
theorem lknd_2 (l : Nat) : lknd l ≠ 2 := by
  match l with
  | 0 => decide
  | 1 => decide
  | 2 => decide
  | 3 => decide
  | _ + 4 => exact (by decide : (9 : Nat) ≠ 2)
theorem cto_adp {G : kG} {S T : kSt} {o : Int64} {ad ad' : kAd} {l0 : Nat} (hS : okN S) (hk0 : ∀ k i, live S k i → ¬ (k = 2 ∧ i = l0) → ad' k i = ad k i) : eqx 1 l0 (cto G S T o ad) (cto G S T o ad') := by
  have hk : ∀ k i, live S k i → k ≠ 2 → ad' k i = ad k i := fun k i h h2 => hk0 k i h (fun z => h2 z.1)
  obtain ⟨h1, h2, h3, h4, h5, h6, h7⟩ := hS
  intro k i hne
  match k with
  | 0 => simp only [cto]; rw [hk 1 0 (show (0 : Nat) < 5 by decide) (by decide), hk 1 1 (show (1 : Nat) < 5 by decide) (by decide), hk 1 2 (show (2 : Nat) < 5 by decide) (by decide), hk 1 3 (show (3 : Nat) < 5 by decide) (by decide), hk 1 4 (show (4 : Nat) < 5 by decide) (by decide), hk 12 0 rfl (by decide), hk 14 0 rfl (by decide)]
  | 1 =>
    simp only [cto]
    by_cases h : i < 5
    · rw [if_pos h, if_pos h]
      by_cases h0 : S.2 6 i = 0
      · rw [if_pos h0, if_pos h0]
      · rw [if_neg h0, if_neg h0, hk0 2 i ⟨h, h0⟩ (fun z => hne ⟨rfl, z.2⟩)]
    · rw [if_neg h, if_neg h]
  | 2 =>
    simp only [cto]
    by_cases h : i < 5 ∧ S.2 6 i ≠ 0
    · rw [if_pos h, if_pos h]
      congr 8
      funext j
      by_cases hj : j < lcnt S i
      · rw [if_pos hj, if_pos hj, hk _ j (live_l h.1 hj) (lknd_2 _)]
      · rw [if_neg hj, if_neg hj]
    · rw [if_neg h, if_neg h]
  | 3 => simp only [cto]
  | 4 => simp only [cto]
  | 5 =>
    simp only [cto]
    by_cases h : i < S.2 0 1
    · rw [if_pos h, if_pos h, hk 4 _ (h5 i h).1 (by decide), hk 3 _ (h5 i h).2 (by decide), hk 6 i h (by decide)]
    · rw [if_neg h, if_neg h]
  | 6 =>
    simp only [cto]
    by_cases h : i < S.2 0 1
    · rw [if_pos h, if_pos h, hk 7 i h (by decide)]
    · rw [if_neg h, if_neg h]
  | 7 => simp only [cto]
  | 8 =>
    simp only [cto]
    by_cases h : i < S.2 0 2
    · rw [if_pos h, if_pos h, hk 5 _ (h6 i h) (by decide)]
    · rw [if_neg h, if_neg h]
  | 9 =>
    simp only [cto]
    by_cases h : i < S.2 0 3
    · rw [if_pos h, if_pos h, hk 4 _ (h7 i h).2 (by decide), hk 10 i h (by decide)]
    · rw [if_neg h, if_neg h]
  | 10 =>
    simp only [cto]
    by_cases h : i < S.2 0 3
    · rw [if_pos h, if_pos h, hk 11 i h (by decide)]
    · rw [if_neg h, if_neg h]
  | 11 => simp only [cto]
  | 12 => simp only [cto]; rw [hk 13 0 (show (0 : Nat) < 3 by decide) (by decide), hk 13 1 (show (1 : Nat) < 3 by decide) (by decide), hk 13 2 (show (2 : Nat) < 3 by decide) (by decide)]
  | 13 => simp only [cto]
  | 14 => simp only [cto]; rw [hk 15 0 rfl (by decide)]
  | 15 => simp only [cto]
  | 16 => simp only [cto]
  | 17 => simp only [cto]
  | 18 => simp only [cto]
  | k + 19 => simp only [cto]
def AK (ad ad1 : kAd) : Prop := ad1 0 0 = ad 0 0 ∧ ad1 16 0 = ad 16 0 ∧ ∀ i, ad1 17 i = ad 17 i
theorem AK.rf {ad : kAd} : AK ad ad := ⟨rfl, rfl, fun _ => rfl⟩
theorem AK.up {ad ad1 : kAd} {k i q : Nat} (h : AK ad ad1) (hk : k ≠ 0 ∧ k ≠ 16 ∧ k ≠ 17) : AK ad (aup ad1 k i q) :=
  ⟨(aup_n (fun z => hk.1 z.1.symm)).trans h.1, (aup_n (fun z => hk.2.1 z.1.symm)).trans h.2.1, fun i => (aup_n (fun z => hk.2.2 z.1.symm)).trans (h.2.2 i)⟩
def capok (n cap : Nat) : Prop := n < cap ∧ 10 ≤ cap ∧ cap ≤ 120
theorem hd_of {G : kG} {S T : kSt} {o : Int64} {ad : kAd} {li : Nat} {C : kCt} (hL : okL S) (hli : li < 5) (hC : C 2 li = cto G S T o ad 2 li) : (lcnt S li = 0 ∧ (if S.2 6 li = 0 then G.2.2.2.2.2.2 else ad 2 li) = G.2.2.2.2.2.2) ∨ ((if S.2 6 li = 0 then G.2.2.2.2.2.2 else ad 2 li) = ad 2 li ∧ 10 ≤ S.2 6 li ∧ lcnt S li ≤ S.2 6 li ∧ S.2 6 li ≤ 120 ∧ C 2 li = some (kOa G (S.2 6 li) (fun j => if j < lcnt S li then some (ad (lknd li) j) else none))) := by
  obtain ⟨h1, h2, h3⟩ := hL li hli
  by_cases h0 : S.2 6 li = 0
  · exact Or.inl ⟨by omega, if_pos h0⟩
  · exact Or.inr ⟨if_neg h0, by omega, h1, h2, by rw [hC]; exact ct_2 hli h0⟩
theorem kEl_of {ad : kAd} {ct : kCt} {kk ci n : Nat} (h : ∀ j, j < n → ∃ vs, ct kk j = some (.inr (ci, vs))) : kEl ad ct kk ci (fun j => if j < n then some (ad kk j) else none) := by
  intro j y hy
  simp only at hy
  split at hy
  · rename_i hj
    obtain ⟨vs, hv⟩ := h j hj
    cases hy
    exact ⟨j, vs, rfl, hv⟩
  · cases hy
theorem cto_98 {G : kG} {S T : kSt} {o : Int64} {ad : kAd} : cto G S T o ad 98 0 = none := by simp only [cto]
theorem ini_nf {ct : kCt} {i : Nat} {a b c d f : va_E} : cup (cup (cup (cup (cup ct 5 i a) 6 i b) 7 i f) 6 i c) 5 i d = cup (cup (cup ct 6 i c) 7 i f) 5 i d := by
  funext x y
  simp only [cup]
  by_cases h5 : x = 5 ∧ y = i
  · simp only [if_pos h5]
  · by_cases h6 : x = 6 ∧ y = i
    · have h7 : ¬ (x = 7 ∧ y = i) := by omega
      simp only [if_neg h5, if_pos h6, if_neg h7]
    · by_cases h7 : x = 7 ∧ y = i
      · simp only [if_neg h5, if_neg h6, if_pos h7]
      · simp only [if_neg h5, if_neg h6, if_neg h7]
theorem dX3_init_0 : decode cX3_init 0 = .ok (.aload_n 0, 1) := by decide +kernel
theorem dX3_init_1 : decode cX3_init 1 = .ok (.invokespecial 1, 3) := by decide +kernel
theorem dX3_init_4 : decode cX3_init 4 = .ok (.aload_n 0, 1) := by decide +kernel
theorem dX3_init_5 : decode cX3_init 5 = .ok (.iload_n 1, 1) := by decide +kernel
theorem dX3_init_6 : decode cX3_init 6 = .ok (.putfield 7, 3) := by decide +kernel
theorem dX3_init_9 : decode cX3_init 9 = .ok (.aload_n 0, 1) := by decide +kernel
theorem dX3_init_10 : decode cX3_init 10 = .ok (.aload_n 2, 1) := by decide +kernel
theorem dX3_init_11 : decode cX3_init 11 = .ok (.putfield 13, 3) := by decide +kernel
theorem dX3_init_14 : decode cX3_init 14 = .ok (.aload_n 0, 1) := by decide +kernel
theorem dX3_init_15 : decode cX3_init 15 = .ok (.aload_n 3, 1) := by decide +kernel
theorem dX3_init_16 : decode cX3_init 16 = .ok (.putfield 17, 3) := by decide +kernel
theorem dX3_init_19 : decode cX3_init 19 = .ok (.aload_n 0, 1) := by decide +kernel
theorem dX3_init_20 : decode cX3_init 20 = .ok (.iload 4, 2) := by decide +kernel
theorem dX3_init_22 : decode cX3_init 22 = .ok (.putfield 21, 3) := by decide +kernel
theorem dX3_init_25 : decode cX3_init 25 = .ok (.aload_n 0, 1) := by decide +kernel
theorem dX3_init_26 : decode cX3_init 26 = .ok (.iload 5, 2) := by decide +kernel
theorem dX3_init_28 : decode cX3_init 28 = .ok (.putfield 24, 3) := by decide +kernel
theorem dX3_init_31 : decode cX3_init 31 = .ok (.aload_n 0, 1) := by decide +kernel
theorem dX3_init_32 : decode cX3_init 32 = .ok (.new 27, 3) := by decide +kernel
theorem dX3_init_35 : decode cX3_init 35 = .ok (.dup, 1) := by decide +kernel
theorem dX3_init_36 : decode cX3_init 36 = .ok (.invokespecial 29, 3) := by decide +kernel
theorem dX3_init_39 : decode cX3_init 39 = .ok (.putfield 30, 3) := by decide +kernel
theorem dX3_init_42 : decode cX3_init 42 = .ok (.return_, 1) := by decide +kernel
set_option maxHeartbeats 4000000 in
set_option maxRecDepth 100000 in
theorem c_X3_init (l : Launch) (E : State) (G : kG) (ad : kAd) (ct : kCt) (i n u9 c9 : Nat) (pp hh : Int32) (hc : ct 5 i = some (.inr (6, [.int 0, .null, .null, .int 0, .int 0, .null, .int 0, .int 0]))) : Met l yX3_init (.code yX3_init cX3_init 6 none :: wsL_law) ({ frames := 5, cells := 2, slots := 13, locals := 150 } : Room) (va_Pc [.ref (ad 5 i), .int (nI n), .ref (ad 4 u9), .ref (ad 3 c9), .int pp, .int hh] (kPre E G ad ct)) (kQv E G (fun ad1 ct1 => ∃ z1 z2 : Nat, ad1 = aup (aup ad 6 i z1) 7 i z2 ∧ ct1 = cup (cup (cup ct 6 i (.inr (5, [.ref z2]))) 7 i (.inl (G.2.2.1, 12, .inl (fun q => if q < 12 then -1 else 0)))) 5 i (.inr (6, [.int (nI n), .ref (ad 4 u9), .ref (ad 3 c9), .int pp, .int hh, .ref z1, .int 0, .int 0])))) 2 13 (kB E.heap.size) := by
  refine Met.ofW (cc := cX3_init) (maxL := 6) (ret := none) (by decide) rfl ?_
  intro p e s m args below meth c s₁ B hml hv
  obtain ⟨rfl, hM, hK, hW0⟩ := hv
  have hlocks := B.notSynchronized
  have hr := B.returns
  have hin : meth.name = "<init>" := (name_of_methodNamed B.named B.method).1
  have Z : kZ p m c cX3_init 6 s _ wsL_law RX3 E G := ⟨⟨B.exec, B.bytes, hml, findClass_of_methodNamed B.named, fun w h => atoms_spec (ws := .code yX3_init cX3_init 6 none :: wsL_law) B.pre w (List.mem_cons_of_mem _ h)⟩, hM, hK⟩
  have hx := Z.1.1
  have hb := Z.1.2.1
  have X := kX.of hW0
  have hl := lv_entry ([.ref (ad 5 i), .int (nI n), .ref (ad 4 u9), .ref (ad 3 c9), .int pp, .int hh]) (n := 6) (Nat.le_of_ble_eq_true rfl)
  rw [lg_entry_eq]
  generalize (lg_sl ([.ref (ad 5 i), .int (nI n), .ref (ad 4 u9), .ref (ad 3 c9), .int pp, .int hh]) ++ List.replicate (6 - (lg_sl ([.ref (ad 5 i), .int (nI n), .ref (ad 4 u9), .ref (ad 3 c9), .int pp, .int hh])).length) Slot.unset).toArray = ls at hl ⊢
  have hl : lv_has ls 6 [(0, .ref (ad 5 i)), (1, .int (nI n)), (2, .ref (ad 4 u9)), (3, .ref (ad 3 c9)), (4, .int pp), (5, .int hh)] := hl
  refine lv_aload_n hx hb dX3_init_0 rfl (lv_at hl 0 rfl) ?_
  refine k_objInit Z (inU_11 _ (List.mem_of_getElem? (i := 21) rfl)) (inU_1 _ (List.mem_of_getElem? (i := 13) rfl)) (inU_1 _ (List.mem_of_getElem? (i := 14) rfl)) hl.1 (Nat.le_of_ble_eq_true rfl) ⟨(Nat.le_of_ble_eq_true rfl), (Nat.le_of_ble_eq_true rfl)⟩ dX3_init_1 ?_
  refine lv_aload_n hx hb dX3_init_4 rfl (lv_at hl 0 rfl) ?_
  refine lv_iload_n hx hb dX3_init_5 rfl (lv_at hl 1 rfl) ?_
  refine k_putF (index := 7) (j := 0) (k := 5) (i := i) Z X hc inlX3 tyX3_ok nmX3 rfl (by decide) (inU_11 _ (List.mem_of_getElem? (i := 22) rfl)) rfl hin rfl (Nat.le_of_ble_eq_true rfl) rfl rfl dX3_init_6 (fun H locs X => ?_)
  have X : kX E G s H locs ad (cup ct 5 i (.inr (6, [.int (nI n), .null, .null, .int 0, .int 0, .null, .int 0, .int 0]))) := kXz X rfl (by first | rfl | exact cup_cup)
  refine lv_aload_n hx hb dX3_init_9 rfl (lv_at hl 0 rfl) ?_
  refine lv_aload_n hx hb dX3_init_10 rfl (lv_at hl 2 rfl) ?_
  refine k_putF (index := 13) (j := 1) (k := 5) (i := i) Z X cup_s inlX3 tyX3_ok nmX3 rfl (by decide) (inU_11 _ (List.mem_of_getElem? (i := 23) rfl)) rfl hin rfl (Nat.le_of_ble_eq_true rfl) rfl rfl dX3_init_11 (fun H locs X => ?_)
  have X : kX E G s H locs ad (cup ct 5 i (.inr (6, [.int (nI n), .ref (ad 4 u9), .null, .int 0, .int 0, .null, .int 0, .int 0]))) := kXz X rfl (by first | rfl | exact cup_cup)
  refine lv_aload_n hx hb dX3_init_14 rfl (lv_at hl 0 rfl) ?_
  refine lv_aload_n hx hb dX3_init_15 rfl (lv_at hl 3 rfl) ?_
  refine k_putF (index := 17) (j := 2) (k := 5) (i := i) Z X cup_s inlX3 tyX3_ok nmX3 rfl (by decide) (inU_12 _ (List.mem_of_getElem? (i := 0) rfl)) rfl hin rfl (Nat.le_of_ble_eq_true rfl) rfl rfl dX3_init_16 (fun H locs X => ?_)
  have X : kX E G s H locs ad (cup ct 5 i (.inr (6, [.int (nI n), .ref (ad 4 u9), .ref (ad 3 c9), .int 0, .int 0, .null, .int 0, .int 0]))) := kXz X rfl (by first | rfl | exact cup_cup)
  refine lv_aload_n hx hb dX3_init_19 rfl (lv_at hl 0 rfl) ?_
  refine lv_iload hx hb dX3_init_20 (lv_at hl 4 rfl) ?_
  refine k_putF (index := 21) (j := 3) (k := 5) (i := i) Z X cup_s inlX3 tyX3_ok nmX3 rfl (by decide) (inU_12 _ (List.mem_of_getElem? (i := 1) rfl)) rfl hin rfl (Nat.le_of_ble_eq_true rfl) rfl rfl dX3_init_22 (fun H locs X => ?_)
  have X : kX E G s H locs ad (cup ct 5 i (.inr (6, [.int (nI n), .ref (ad 4 u9), .ref (ad 3 c9), .int pp, .int 0, .null, .int 0, .int 0]))) := kXz X rfl (by first | rfl | exact cup_cup)
  refine lv_aload_n hx hb dX3_init_25 rfl (lv_at hl 0 rfl) ?_
  refine lv_iload hx hb dX3_init_26 (lv_at hl 5 rfl) ?_
  refine k_putF (index := 24) (j := 4) (k := 5) (i := i) Z X cup_s inlX3 tyX3_ok nmX3 rfl (by decide) (inU_12 _ (List.mem_of_getElem? (i := 2) rfl)) rfl hin rfl (Nat.le_of_ble_eq_true rfl) rfl rfl dX3_init_28 (fun H locs X => ?_)
  have X : kX E G s H locs ad (cup ct 5 i (.inr (6, [.int (nI n), .ref (ad 4 u9), .ref (ad 3 c9), .int pp, .int hh, .null, .int 0, .int 0]))) := kXz X rfl (by first | rfl | exact cup_cup)
  refine lv_aload_n hx hb dX3_init_31 rfl (lv_at hl 0 rfl) ?_
  refine k_new (fs := [.null]) (ci := 5) (ty0 := tyX2) 6 i Z X inlX2 tyX2_ok rfl (inU_12 _ (List.mem_of_getElem? (i := 3) rfl)) (inU_2 _ (List.mem_of_getElem? (i := 7) rfl)) (inU_2 _ (List.mem_of_getElem? (i := 8) rfl)) (fun j hj => by match j, hj with | 0, _ => rfl) (Nat.le_of_ble_eq_true rfl) (Nat.le_of_ble_eq_true rfl) dX3_init_32 (fun z H X => ?_)
  obtain ⟨adM, hadM⟩ : ∃ y, y = aup ad 6 i z := ⟨_, rfl⟩
  obtain ⟨ctM, hctM⟩ : ∃ y, y = cup (cup ct 5 i (.inr (6, [.int (nI n), .ref (ad 4 u9), .ref (ad 3 c9), .int pp, .int hh, .null, .int 0, .int 0]))) 6 i (.inr (5, [.null])) := ⟨_, rfl⟩
  rw [← hadM, ← hctM] at X
  have eN : adM 6 i = z := by rw [hadM]; exact aup_s
  subst eN
  have e0 : adM 5 i = ad 5 i := by rw [hadM]; exact aup_n (by simp)
  rw [← e0] at hl
  refine W.eq (congrArg (fun y => F0 m 35 ls [.ref (adM 6 i), .ref y]) e0.symm) ?_
  have h6 : ctM 6 i = some (.inr (5, [.null])) := by rw [hctM]; exact cup_s
  refine lv_dup hx hb dX3_init_35 rfl ?_
  refine k_Rv X (k_runI (As := []) (rest := [.ref (adM 6 i), .ref (adM 5 i)]) Z X (c_X2_init l E G adM ctM 6 i 7 i (by decide) h6) (k_cwI 0 Z.1.2.2.2.2 (inU_12 _ (List.mem_of_getElem? (i := 5) rfl)) (inU_5 _ (List.mem_of_getElem? (i := 20) rfl)) (inU_2 _ (List.mem_of_getElem? (i := 8) rfl)) (inU_5 _ (List.mem_of_getElem? (i := 21) rfl)) rfl rfl rfl (by decide +kernel) ⟨Nat.le_of_ble_eq_true rfl, Nat.le_of_ble_eq_true rfl⟩) rfl hl.1 rfl (Nat.le_of_ble_eq_true rfl) dX3_init_36 ⟨(by first | exact Nat.le_of_ble_eq_true rfl | (show _ ≤ (_ : Nat); simp only [headSpec]; omega)), (by first | exact Nat.le_of_ble_eq_true rfl | (show _ ≤ (_ : Nat); simp only [headSpec]; omega))⟩) (fun ad1 ct1 H locs hp X => ?_)
  obtain ⟨z2, hp1, hp2⟩ := hp
  obtain ⟨ad2, had2⟩ : ∃ y, y = aup adM 7 i z2 := ⟨_, rfl⟩
  rw [hp1, hp2, ← had2] at X
  have e7 : ad2 7 i = z2 := by rw [had2]; exact aup_s
  have e6 : ad2 6 i = adM 6 i := by rw [had2]; exact aup_n (by simp)
  have e5 : ad2 5 i = adM 5 i := by rw [had2]; exact aup_n (by simp)
  refine W.eq (congrArg (fun y => F0 m 39 ls [.ref (adM 6 i), .ref y]) e5.symm) ?_
  have h5 : cup (cup ctM 7 i (.inl (G.2.2.1, 12, .inl (fun q => if q < 12 then -1 else 0)))) 6 i (.inr (5, [.ref z2])) 5 i = some (.inr (6, [.int (nI n), .ref (ad 4 u9), .ref (ad 3 c9), .int pp, .int hh, .null, .int 0, .int 0])) := (cup_n (by simp)).trans ((cup_n (by simp)).trans (by rw [hctM]; exact (cup_n (by simp)).trans cup_s))
  refine k_putF (index := 30) (j := 5) (k := 5) (i := i) Z X h5 inlX3 tyX3_ok nmX3 rfl (by decide) (inU_12 _ (List.mem_of_getElem? (i := 4) rfl)) rfl hin rfl (Nat.le_of_ble_eq_true rfl) rfl rfl dX3_init_39 (fun H locs X => ?_)
  exact k_vret Z X hr hlocks (by omega) (by omega) dX3_init_42 ⟨adM 6 i, z2, by rw [had2, hadM, aup_s], by rw [hctM]; exact ini_nf⟩
