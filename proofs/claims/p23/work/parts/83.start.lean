/-! THE LAW: from its entry -/
theorem lknd_lt (l : Nat) : lknd l < 16 := by
  match l with
  | 0 => decide
  | 1 => decide
  | 2 => decide
  | 3 => decide
  | _ + 4 => exact (by decide : (9 : Nat) < 16)
theorem cto_lo {G : kG} {S T : kSt} {o : Int64} {ad ad' : kAd} (h : ∀ k i, k < 16 → ad' k i = ad k i) : ∀ k i, k < 16 → cto G S T o ad' k i = cto G S T o ad k i := by
  intro k i hk
  match k, hk with
  | 0, _ => simp only [cto, h 1 0 (by decide), h 1 1 (by decide), h 1 2 (by decide), h 1 3 (by decide), h 1 4 (by decide), h 12 0 (by decide), h 14 0 (by decide)]
  | 1, _ => simp only [cto, h 2 i (by decide)]
  | 2, _ =>
    have hf : ∀ j, ad' (lknd i) j = ad (lknd i) j := fun j => h _ _ (lknd_lt i)
    simp only [cto, hf]
  | 3, _ => simp only [cto]
  | 4, _ => simp only [cto]
  | 5, _ => simp only [cto, h 4 (S.2 1 i) (by decide), h 3 (S.2 2 i) (by decide), h 6 i (by decide)]
  | 6, _ => simp only [cto, h 7 i (by decide)]
  | 7, _ => simp only [cto]
  | 8, _ => simp only [cto, h 5 (S.2 3 i) (by decide)]
  | 9, _ => simp only [cto, h 4 (S.2 5 i) (by decide), h 10 i (by decide)]
  | 10, _ => simp only [cto, h 11 i (by decide)]
  | 11, _ => simp only [cto]
  | 12, _ => simp only [cto, h 13 0 (by decide), h 13 1 (by decide), h 13 2 (by decide)]
  | 13, _ => simp only [cto]
  | 14, _ => simp only [cto, h 15 0 (by decide)]
  | 15, _ => simp only [cto]
  | k + 16, hk => omega
theorem marr_hi {G : kG} {T : kSt} {i : Nat} (h : 11 ≤ i) : marr G T i = none := by
  unfold marr
  split <;> first | omega | rfl
/-- the law's arrays, one behind another -/
def mk17 (G : kG) (j : Nat) (ad0 : kAd) (ct0 : kCt) (ad : kAd) (ct : kCt) : Prop :=
  (∀ k i, k ≠ 17 → ad k i = ad0 k i) ∧ (∀ q, q < j → ct 17 q = marr G kT0 q) ∧ ∀ k i, k ≠ 17 → ct k i = ct0 k i
theorem mk17.z (G : kG) (ad : kAd) (ct : kCt) : mk17 G 0 ad ct ad ct := ⟨fun _ _ _ => rfl, fun q hq => absurd hq (Nat.not_lt_zero _), fun _ _ _ => rfl⟩
theorem mk17.st {G : kG} {j : Nat} {ad0 ad : kAd} {ct0 ct : kCt} (h : mk17 G j ad0 ct0 ad ct) (z : Nat) {e : va_E} (he : marr G kT0 j = some e) : mk17 G (j + 1) ad0 ct0 (aup ad 17 j z) (cup ct 17 j e) := by
  refine ⟨fun k i hk => (aup_n (fun y => hk y.1)).trans (h.1 k i hk), fun q hq => ?_, fun k i hk => (cup_n (fun y => hk y.1)).trans (h.2.2 k i hk)⟩
  by_cases hj : q = j
  · rw [hj, cup_s, he]
  · rw [cup_n (fun y => hj y.2)]; exact h.2.1 q (by omega)
theorem start_ct {G : kG} {cap : Nat} {adB ad : kAd} {ctB ct : kCt} (hw : ∀ k i e, k < 16 → cto G (kS0 cap) kT0 0 adB k i = some e → ctB k i = some e) (hm : mk17 G 11 adB ctB ad ct) : ∀ k i e, cto G (kS0 cap) kT0 0 ad k i = some e → ct k i = some e := by
  obtain ⟨m1, m2, m3⟩ := hm
  intro k i e h
  by_cases hk : k < 16
  · rw [cto_lo (fun k i hk => m1 k i (by omega)) k i hk] at h
    rw [m3 k i (by omega)]
    exact hw k i e hk h
  · match k, hk with
    | 16, _ =>
      have h : (none : Option va_E) = some e := h
      cases h
    | 17, _ =>
      have h : marr G kT0 i = some e := h
      by_cases hi : i < 11
      · rw [m2 i hi]; exact h
      · rw [marr_hi (by omega)] at h; cases h
    | 18, _ =>
      have h : (none : Option va_E) = some e := h
      cases h
    | k + 19, _ =>
      have h : (none : Option va_E) = some e := h
      cases h
    | 0, hk => omega
    | 1, hk => omega
    | 2, hk => omega
    | 3, hk => omega
    | 4, hk => omega
    | 5, hk => omega
    | 6, hk => omega
    | 7, hk => omega
    | 8, hk => omega
    | 9, hk => omega
    | 10, hk => omega
    | 11, hk => omega
    | 12, hk => omega
    | 13, hk => omega
    | 14, hk => omega
    | 15, hk => omega
/-- at the start nothing is there, and the law's arrays say so -/
theorem kS0_1 {cap f : Nat} (a : f ≠ 18) (b : f ≠ 19) : (kS0 cap).1 f = fun _ => 0 := by
  funext j
  simp only [kS0]
  rw [if_neg b, if_neg a]
theorem kS0_2 {cap f j : Nat} (a : ¬ (f = 6 ∧ j = 0)) : (kS0 cap).2 f j = 0 := if_neg a
theorem iv_0 {cap : Nat} (hcap : capok 5 cap) : Iv 0 (kS0 cap) kT0 := by
  have c0 : (kS0 cap).2 0 0 = 0 := kS0_2 (by decide)
  have c1 : (kS0 cap).2 0 1 = 0 := kS0_2 (by decide)
  have c2 : (kS0 cap).2 0 2 = 0 := kS0_2 (by decide)
  have c3 : (kS0 cap).2 0 3 = 0 := kS0_2 (by decide)
  have e3 : (kS0 cap).1 3 = fun _ => 0 := kS0_1 (by decide) (by decide)
  have e4 : (kS0 cap).1 4 = fun _ => 0 := kS0_1 (by decide) (by decide)
  have e0 : (kS0 cap).1 0 = fun _ => 0 := kS0_1 (by decide) (by decide)
  refine ⟨⟨⟨kT0, tie_0 hcap⟩, ⟨⟨?_, ?_, ?_, ?_, ?_⟩, ⟨by omega, by omega, by omega, by omega⟩, fun j hj => by omega, fun j hj => by omega, fun j _ _ => ⟨rfl, rfl⟩, fun j _ => ⟨?_, ?_, ?_⟩, fun j hj => by omega, fun j hj => by omega⟩, ?_⟩, fun k hk => by omega, fun c _ => ⟨0, ?_, ?_⟩⟩
  · rw [e0]; rfl
  · rw [c0]; rfl
  · rw [c1]; rfl
  · rw [c2]; rfl
  · rw [c3]; rfl
  · rw [e3]; rfl
  · rw [e4]; rfl
  · rw [e4]; exact Or.inl rfl
  · unfold tot totC
    rw [c2]
    simp only [chS, e3]
    rfl
  · rw [e3]; rfl
  · rw [c2]; exact Nat.le_refl _
set_option maxHeartbeats 4000000 in
set_option maxRecDepth 100000 in
theorem lz_c {p : Program} {l : Launch} {e : Env} {s : State} {m : MethodId} {below : List Frame} {meth : Method} {c : Code} {E : State} {G : kG} {o : Int64} {Q : State → Prop} {b : Nat} {S T : kSt} {ad : kAd} (hE : kE l E G) (Z : kZ p m c code 24 s #[Value.ref b] wsL_law RL E G) (h0 : S.2 0 0 = 0) (h1 : S.2 0 1 = 0) (h2 : S.2 0 2 = 0) (h3 : S.2 0 3 = 0) (hI : Iv 0 S T) (K : lwH p l e s m below meth c E G b 0 o Q) : ∀ (H : Heap) (locs : List Loc) (ls : Array Slot), kX E G s H locs ad (cto G S T o ad) → lv_has ls 24 [(0, .ref b), (1, .ref (ad 0 0)), (2, .ref (ad 17 0)), (3, .ref (ad 17 1)), (4, .ref (ad 17 2)), (5, .ref (ad 17 3)), (6, .ref (ad 17 4)), (7, .ref (ad 17 5)), (8, .ref (ad 17 6)), (9, .ref (ad 17 7)), (10, .ref (ad 17 8)), (11, .ref (ad 17 9)), (12, .ref (ad 17 10))] → W p l e room_1 s m #[Value.ref b] below meth c H locs 80 3800 Q (F0 m 100 ls []) := by
  intro H locs ls X hl
  have hx := Z.1.1
  have hb := Z.1.2.1
  have hT := hI.lt
  obtain ⟨hS, hL, hK9, hLg, hRp, hlog9, hB⟩ := hI.1.ok
  have hN := hS
  have hlog : S.2 0 4 < 512 := by omega
  obtain ⟨hc0, hc1, hc2, hc3⟩ := hT.c
  refine lv_aload_n hx hb dL_law_100 rfl (lv_at hl 1 rfl) ?_
  refine lv_iconst (v := 1) hx hb dL_law_101 (by decide) ?_
  refine lv_iconst (v := 0) hx hb dL_law_102 (by decide) ?_
  refine lv_iconst (v := 0) hx hb dL_law_103 (by decide) ?_
  refine lv_iconst (v := 0) hx hb dL_law_104 (by decide) ?_
  refine lv_iconst (v := 0) hx hb dL_law_105 (by decide) ?_
  refine k_xRi X (k_xrunSW (As := [.ref (ad 0 0), .int 1, .int 0, .int 0, .int 0, .int 0]) (rest := []) Z X (c_L_does_1 l E G S T o ad 0 0 0 0 hE hS hL hK9) (k_cwSW 6 Z.1.2.2.2.2 (inU_6 _ (List.mem_of_getElem? (i := 3) rfl)) (inU_6 _ (List.mem_of_getElem? (i := 4) rfl)) (inU_6 _ (List.mem_of_getElem? (i := 5) rfl)) (inU_6 _ (List.mem_of_getElem? (i := 6) rfl)) rfl rfl (by decide +kernel) ⟨(Nat.le_of_ble_eq_true rfl), (Nat.le_of_ble_eq_true rfl)⟩) rfl hl.1 rfl (Nat.le_of_ble_eq_true rfl) dL_law_106 ⟨(by first | exact rm_c (by omega) | exact rm_s (by omega)), (by first | exact rm_c (by omega) | exact rm_s (by omega))⟩) (fun _ _ _ _ _ _ _ hp => hp.elim) (fun r_106 ad1 ct1 H locs hp X => ?_)
  have hC : cRole S 0 0 = 1 := (cRole_v (S := S) (u := 0) (r := 0) (by decide) (by decide)).trans (if_neg (by omega))
  obtain ⟨ha_, hq⟩ := hp
  rcases hq with ⟨z, -⟩ | ⟨z, hr_, hb_⟩ | ⟨z, -⟩ | ⟨z, -⟩
  case inl => exact absurd (hC.symm.trans z) (by decide)
  case inr.inr.inl => exact absurd (hC.symm.trans z) (by decide)
  case inr.inr.inr => exact absurd (hC.symm.trans z) (by decide)
  subst hr_
  rw [hb_, ← ha_] at X
  refine lv_ldc (v := (-3000000)) hx hb Z.1.2.2.2.1 (Z.1.2.2.2.2 _ (inU_1 _ (List.mem_of_getElem? (i := 5) rfl))) dL_law_109 ?_
  refine lv_icmp_ne (tgt := 195) hx hb dL_law_111 (by decide) (fun c_111 => ?_) (fun c_111 => ?_)
  · exact absurd rfl c_111
  · refine lv_aload_n hx hb dL_law_114 rfl (lv_at hl 1 rfl) ?_
    refine lv_iconst (v := 3) hx hb dL_law_115 (by decide) ?_
    refine lv_bipush (v := 6) hx hb dL_law_116 (by decide) ?_
    refine lv_iconst (v := 0) hx hb dL_law_118 (by decide) ?_
    refine lv_iconst (v := 0) hx hb dL_law_119 (by decide) ?_
    refine lv_iconst (v := 0) hx hb dL_law_120 (by decide) ?_
    refine k_xRi X (k_xrunSW (As := [.ref (ad 0 0), .int 3, .int 6, .int 0, .int 0, .int 0]) (rest := []) Z X (c_L_does_3 l E G S T o ad 6 0 0 0 hE hS hL) (k_cwSW 6 Z.1.2.2.2.2 (inU_6 _ (List.mem_of_getElem? (i := 3) rfl)) (inU_6 _ (List.mem_of_getElem? (i := 4) rfl)) (inU_6 _ (List.mem_of_getElem? (i := 5) rfl)) (inU_6 _ (List.mem_of_getElem? (i := 6) rfl)) rfl rfl (by decide +kernel) ⟨(Nat.le_of_ble_eq_true rfl), (Nat.le_of_ble_eq_true rfl)⟩) rfl hl.1 rfl (Nat.le_of_ble_eq_true rfl) dL_law_121 ⟨(by first | exact rm_c (by omega) | exact rm_s (by omega)), (by first | exact rm_c (by omega) | exact rm_s (by omega))⟩) (fun _ _ _ _ _ _ _ hp => hp.elim) (fun r_121 ad1 ct1 H locs hp X => ?_)
    have hC : cBudget S 6 0 = 1 := (cBudget_v (c := 6) (x := 0) hI.2 (by decide) (by decide) (by decide)).trans (if_neg (by decide))
    obtain ⟨ha_, hq⟩ := hp
    rcases hq with ⟨z, -⟩ | ⟨z, hr_, hb_⟩ | ⟨z, -⟩ | ⟨z, -⟩
    case inl => exact absurd (hC.symm.trans z) (by decide)
    case inr.inr.inl => exact absurd (hC.symm.trans z) (by decide)
    case inr.inr.inr => exact absurd (hC.symm.trans z) (by decide)
    subst hr_
    rw [hb_, ← ha_] at X
    refine lv_ldc (v := (-3000000)) hx hb Z.1.2.2.2.1 (Z.1.2.2.2.2 _ (inU_1 _ (List.mem_of_getElem? (i := 5) rfl))) dL_law_124 ?_
    refine lv_icmp_ne (tgt := 195) hx hb dL_law_126 (by decide) (fun c_126 => ?_) (fun c_126 => ?_)
    · exact absurd rfl c_126
    · refine lv_aload_n hx hb dL_law_129 rfl (lv_at hl 1 rfl) ?_
      refine lv_bipush (v := 12) hx hb dL_law_130 (by decide) ?_
      refine lv_sipush (v := 1001) hx hb dL_law_132 (by decide) ?_
      refine lv_iconst (v := 0) hx hb dL_law_135 (by decide) ?_
      refine lv_iconst (v := 0) hx hb dL_law_136 (by decide) ?_
      refine lv_iconst (v := 0) hx hb dL_law_137 (by decide) ?_
      refine k_xRi X (k_xrunSW (As := [.ref (ad 0 0), .int 12, .int 1001, .int 0, .int 0, .int 0]) (rest := []) Z X (c_L_does_12 l E G S T o ad 1001 0 0 0 hE hS hL hK9) (k_cwSW 6 Z.1.2.2.2.2 (inU_6 _ (List.mem_of_getElem? (i := 3) rfl)) (inU_6 _ (List.mem_of_getElem? (i := 4) rfl)) (inU_6 _ (List.mem_of_getElem? (i := 5) rfl)) (inU_6 _ (List.mem_of_getElem? (i := 6) rfl)) rfl rfl (by decide +kernel) ⟨(Nat.le_of_ble_eq_true rfl), (Nat.le_of_ble_eq_true rfl)⟩) rfl hl.1 rfl (Nat.le_of_ble_eq_true rfl) dL_law_138 ⟨(by first | exact rm_c (by omega) | exact rm_s (by omega)), (by first | exact rm_c (by omega) | exact rm_s (by omega))⟩) (fun _ _ _ _ _ _ _ hp => hp.elim) (fun r_138 ad1 ct1 H locs hp X => ?_)
      have hC : cPass 1001 = 1 := by decide
      obtain ⟨ha_, hq⟩ := hp
      rcases hq with ⟨z, -⟩ | ⟨z, hr_, hb_⟩ | ⟨z, -⟩ | ⟨z, -⟩
      case inl => exact absurd (hC.symm.trans z) (by decide)
      case inr.inr.inl => exact absurd (hC.symm.trans z) (by decide)
      case inr.inr.inr => exact absurd (hC.symm.trans z) (by decide)
      subst hr_
      rw [hb_, ← ha_] at X
      refine lv_ldc (v := (-2000000)) hx hb Z.1.2.2.2.1 (Z.1.2.2.2.2 _ (inU_1 _ (List.mem_of_getElem? (i := 4) rfl))) dL_law_141 ?_
      refine lv_icmp_ne (tgt := 195) hx hb dL_law_143 (by decide) (fun c_143 => ?_) (fun c_143 => ?_)
      · exact absurd rfl c_143
      · refine lv_aload_n hx hb dL_law_146 rfl (lv_at hl 1 rfl) ?_
        refine lv_bipush (v := 15) hx hb dL_law_147 (by decide) ?_
        refine lv_iconst (v := 0) hx hb dL_law_149 (by decide) ?_
        refine lv_iconst (v := 0) hx hb dL_law_150 (by decide) ?_
        refine lv_iconst (v := 0) hx hb dL_law_151 (by decide) ?_
        refine lv_iconst (v := 0) hx hb dL_law_152 (by decide) ?_
        refine k_xRi X (k_xrunSW (As := [.ref (ad 0 0), .int 15, .int 0, .int 0, .int 0, .int 0]) (rest := []) Z X (c_L_does_15 l E G S T o ad 0 0 0 0 hE hS hL) (k_cwSW 6 Z.1.2.2.2.2 (inU_6 _ (List.mem_of_getElem? (i := 3) rfl)) (inU_6 _ (List.mem_of_getElem? (i := 4) rfl)) (inU_6 _ (List.mem_of_getElem? (i := 5) rfl)) (inU_6 _ (List.mem_of_getElem? (i := 6) rfl)) rfl rfl (by decide +kernel) ⟨(Nat.le_of_ble_eq_true rfl), (Nat.le_of_ble_eq_true rfl)⟩) rfl hl.1 rfl (Nat.le_of_ble_eq_true rfl) dL_law_153 ⟨(by first | exact rm_c (by omega) | exact rm_s (by omega)), (by first | exact rm_c (by omega) | exact rm_s (by omega))⟩) (fun _ _ _ _ _ _ _ hp => hp.elim) (fun r_153 ad1 ct1 H locs hp X => ?_)
        have hC : cSpOf S 0 0 = 1 := by rw [cSpOf, show inB 0 (S.2 0 2) = false from inB_no (x := 0) (by omega) (by decide), if_pos rfl]
        obtain ⟨ha_, hq⟩ := hp
        rcases hq with ⟨z, -⟩ | ⟨z, hr_, hb_⟩ | ⟨z, -⟩ | ⟨z, -⟩
        case inl => exact absurd (hC.symm.trans z) (by decide)
        case inr.inr.inl => exact absurd (hC.symm.trans z) (by decide)
        case inr.inr.inr => exact absurd (hC.symm.trans z) (by decide)
        subst hr_
        rw [hb_, ← ha_] at X
        refine lv_ldc (v := (-3000000)) hx hb Z.1.2.2.2.1 (Z.1.2.2.2.2 _ (inU_1 _ (List.mem_of_getElem? (i := 5) rfl))) dL_law_156 ?_
        refine lv_icmp_ne (tgt := 195) hx hb dL_law_158 (by decide) (fun c_158 => ?_) (fun c_158 => ?_)
        · exact absurd rfl c_158
        · refine lv_aload_n hx hb dL_law_161 rfl (lv_at hl 1 rfl) ?_
          refine lv_bipush (v := 17) hx hb dL_law_162 (by decide) ?_
          refine lv_iconst (v := 0) hx hb dL_law_164 (by decide) ?_
          refine lv_iconst (v := 0) hx hb dL_law_165 (by decide) ?_
          refine lv_iconst (v := 0) hx hb dL_law_166 (by decide) ?_
          refine lv_iconst (v := 0) hx hb dL_law_167 (by decide) ?_
          refine k_xRi X (k_xrunSW (As := [.ref (ad 0 0), .int 17, .int 0, .int 0, .int 0, .int 0]) (rest := []) Z X (c_L_does_17 l E G S T o ad 0 0 0 0 hE hS hL) (k_cwSW 6 Z.1.2.2.2.2 (inU_6 _ (List.mem_of_getElem? (i := 3) rfl)) (inU_6 _ (List.mem_of_getElem? (i := 4) rfl)) (inU_6 _ (List.mem_of_getElem? (i := 5) rfl)) (inU_6 _ (List.mem_of_getElem? (i := 6) rfl)) rfl rfl (by decide +kernel) ⟨(Nat.le_of_ble_eq_true rfl), (Nat.le_of_ble_eq_true rfl)⟩) rfl hl.1 rfl (Nat.le_of_ble_eq_true rfl) dL_law_168 ⟨(by first | exact rm_c (by omega) | exact rm_s (by omega)), (by first | exact rm_c (by omega) | exact rm_s (by omega))⟩) (fun _ _ _ _ _ _ _ hp => hp.elim) (fun r_168 ad1 ct1 H locs hp X => ?_)
          have hC : cTaskOf S 0 = 1 := by rw [cTaskOf, show inB 0 (S.2 0 3) = false from inB_no (x := 0) (by omega) (by decide), if_pos rfl]
          obtain ⟨ha_, hq⟩ := hp
          rcases hq with ⟨z, -⟩ | ⟨z, hr_, hb_⟩ | ⟨z, -⟩ | ⟨z, -⟩
          case inl => exact absurd (hC.symm.trans z) (by decide)
          case inr.inr.inl => exact absurd (hC.symm.trans z) (by decide)
          case inr.inr.inr => exact absurd (hC.symm.trans z) (by decide)
          subst hr_
          rw [hb_, ← ha_] at X
          refine lv_ldc (v := (-3000000)) hx hb Z.1.2.2.2.1 (Z.1.2.2.2.2 _ (inU_1 _ (List.mem_of_getElem? (i := 5) rfl))) dL_law_171 ?_
          refine lv_icmp_ne (tgt := 195) hx hb dL_law_173 (by decide) (fun c_173 => ?_) (fun c_173 => ?_)
          · exact absurd rfl c_173
          · refine lv_aload_n hx hb dL_law_176 rfl (lv_at hl 1 rfl) ?_
            refine lv_bipush (v := 14) hx hb dL_law_177 (by decide) ?_
            refine lv_iconst (v := 0) hx hb dL_law_179 (by decide) ?_
            refine lv_iconst (v := 1) hx hb dL_law_180 (by decide) ?_
            refine lv_iconst (v := 0) hx hb dL_law_181 (by decide) ?_
            refine lv_iconst (v := 0) hx hb dL_law_182 (by decide) ?_
            refine k_xRi X (k_xrunSW (As := [.ref (ad 0 0), .int 14, .int 0, .int 1, .int 0, .int 0]) (rest := []) Z X (c_L_does_14 l E G S T o ad 0 1 0 hE hS hL hK9 hLg hRp) (k_cwSW 6 Z.1.2.2.2.2 (inU_6 _ (List.mem_of_getElem? (i := 3) rfl)) (inU_6 _ (List.mem_of_getElem? (i := 4) rfl)) (inU_6 _ (List.mem_of_getElem? (i := 5) rfl)) (inU_6 _ (List.mem_of_getElem? (i := 6) rfl)) rfl rfl (by decide +kernel) ⟨(Nat.le_of_ble_eq_true rfl), (Nat.le_of_ble_eq_true rfl)⟩) rfl hl.1 rfl (Nat.le_of_ble_eq_true rfl) dL_law_183 ⟨(by first | exact rm_c (by omega) | exact rm_s (by omega)), (by first | exact rm_c (by omega) | exact rm_s (by omega))⟩) (fun _ _ _ _ _ _ _ hp => hp.elim) (fun r_183 ad1 ct1 H locs hp X => ?_)
            have hC : cAppr S 0 1 = 1 := by rw [cAppr, show inB 0 (S.2 0 1) = false from inB_no (x := 0) (by omega) (by decide), if_pos rfl]
            obtain ⟨ha_, hq⟩ := hp
            rcases hq with ⟨z, -⟩ | ⟨z, hr_, hb_⟩ | ⟨z, -⟩ | ⟨z, -⟩
            case inl => exact absurd (hC.symm.trans z) (by decide)
            case inr.inr.inl => exact absurd (hC.symm.trans z) (by decide)
            case inr.inr.inr => exact absurd (hC.symm.trans z) (by decide)
            subst hr_
            rw [hb_, ← ha_] at X
            refine lv_ldc (v := (-3000000)) hx hb Z.1.2.2.2.1 (Z.1.2.2.2.2 _ (inU_1 _ (List.mem_of_getElem? (i := 5) rfl))) dL_law_186 ?_
            refine lv_icmp_ne (tgt := 195) hx hb dL_law_188 (by decide) (fun c_188 => ?_) (fun c_188 => ?_)
            · exact absurd rfl c_188
            · refine lv_iconst (v := 1) hx hb dL_law_191 (by decide) ?_
              refine lv_goto (tgt := 196) hx hb dL_law_192 (by decide) ?_
              refine lv_istore (lv' := [(13, .int 1), (0, .ref b), (1, .ref (ad 0 0)), (2, .ref (ad 17 0)), (3, .ref (ad 17 1)), (4, .ref (ad 17 2)), (5, .ref (ad 17 3)), (6, .ref (ad 17 4)), (7, .ref (ad 17 5)), (8, .ref (ad 17 6)), (9, .ref (ad 17 7)), (10, .ref (ad 17 8)), (11, .ref (ad 17 9)), (12, .ref (ad 17 10))]) hx hb dL_law_196 hl (by decide) rfl (fun ls hl => ?_)
              refine lv_iconst (v := 0) hx hb dL_law_198 (by decide) ?_
              refine lv_istore (lv' := [(14, .int 0), (13, .int 1), (0, .ref b), (1, .ref (ad 0 0)), (2, .ref (ad 17 0)), (3, .ref (ad 17 1)), (4, .ref (ad 17 2)), (5, .ref (ad 17 3)), (6, .ref (ad 17 4)), (7, .ref (ad 17 5)), (8, .ref (ad 17 6)), (9, .ref (ad 17 7)), (10, .ref (ad 17 8)), (11, .ref (ad 17 9)), (12, .ref (ad 17 10))]) hx hb dL_law_199 hl (by decide) rfl (fun ls hl => ?_)
              refine W.widen (k := 1100 * 0 + 200) (n := 8000 * 0 + 9000) (by omega) (by omega) ?_
              exact K _ _ _ _ _ _ hI X (lv_sub hl [2, 3, 4, 5, 6, 7, 8, 9, 10, 11, 12, 13, 14, 1, 0] rfl)
set_option maxHeartbeats 4000000 in
set_option maxRecDepth 100000 in
theorem lz_b {p : Program} {l : Launch} {e : Env} {s : State} {m : MethodId} {below : List Frame} {meth : Method} {c : Code} {E : State} {G : kG} {o : Int64} {Q : State → Prop} {b : Nat} {S T : kSt} {ad : kAd} (hE : kE l E G) (Z : kZ p m c code 24 s #[Value.ref b] wsL_law RL E G) (h0 : S.2 0 0 = 0) (h1 : S.2 0 1 = 0) (h2 : S.2 0 2 = 0) (h3 : S.2 0 3 = 0) (hI : Iv 0 S T) (K : lwH p l e s m below meth c E G b 0 o Q) : ∀ (H : Heap) (locs : List Loc) (ls : Array Slot), kX E G s H locs ad (cto G S T o ad) → lv_has ls 24 [(0, .ref b), (1, .ref (ad 0 0)), (2, .ref (ad 17 0)), (3, .ref (ad 17 1)), (4, .ref (ad 17 2)), (5, .ref (ad 17 3)), (6, .ref (ad 17 4)), (7, .ref (ad 17 5)), (8, .ref (ad 17 6)), (9, .ref (ad 17 7)), (10, .ref (ad 17 8)), (11, .ref (ad 17 9)), (12, .ref (ad 17 10))] → W p l e room_1 s m #[Value.ref b] below meth c H locs 60 3400 Q (F0 m 86 ls []) := by
  intro H locs ls X hl
  have hx := Z.1.1
  have hb := Z.1.2.1
  have hT := hI.lt
  obtain ⟨hS, hL, hK9, hLg, hRp, hlog9, hB⟩ := hI.1.ok
  have hN := hS
  have hlog : S.2 0 4 < 512 := by omega
  obtain ⟨hc0, hc1, hc2, hc3⟩ := hT.c
  refine lv_aload_n hx hb dL_law_86 rfl (lv_at hl 1 rfl) ?_
  refine lv_iconst (v := 0) hx hb dL_law_87 (by decide) ?_
  refine lv_iconst (v := (-1)) hx hb dL_law_88 (by decide) ?_
  refine lv_iconst (v := 0) hx hb dL_law_89 (by decide) ?_
  refine lv_iconst (v := 0) hx hb dL_law_90 (by decide) ?_
  refine lv_iconst (v := 0) hx hb dL_law_91 (by decide) ?_
  refine k_xRi X (k_xrunSW (As := [.ref (ad 0 0), .int 0, .int (-1), .int 0, .int 0, .int 0]) (rest := []) Z X (c_L_does_0 l E G S T o ad (-1) 0 0 0 hE hS hL) (k_cwSW 6 Z.1.2.2.2.2 (inU_6 _ (List.mem_of_getElem? (i := 3) rfl)) (inU_6 _ (List.mem_of_getElem? (i := 4) rfl)) (inU_6 _ (List.mem_of_getElem? (i := 5) rfl)) (inU_6 _ (List.mem_of_getElem? (i := 6) rfl)) rfl rfl (by decide +kernel) ⟨(Nat.le_of_ble_eq_true rfl), (Nat.le_of_ble_eq_true rfl)⟩) rfl hl.1 rfl (Nat.le_of_ble_eq_true rfl) dL_law_92 ⟨(by first | exact rm_c (by omega) | exact rm_s (by omega)), (by first | exact rm_c (by omega) | exact rm_s (by omega))⟩) (fun _ _ _ _ _ _ _ hp => hp.elim) (fun r_92 ad1 ct1 H locs hp X => ?_)
  have hC : cUser S (-1) = 1 := by rw [cUser, if_pos (by decide)]
  obtain ⟨hAK, hq⟩ := hp
  rcases hq with ⟨z, -⟩ | ⟨z, hr_, hb_⟩ | ⟨z, -⟩ | ⟨z, -⟩
  case inl => exact absurd (hC.symm.trans z) (by decide)
  case inr.inr.inl => exact absurd (hC.symm.trans z) (by decide)
  case inr.inr.inr => exact absurd (hC.symm.trans z) (by decide)
  subst hr_
  rw [hb_] at X
  rw [← hAK.1] at hl
  rw [← hAK.2.2 0] at hl
  rw [← hAK.2.2 1] at hl
  rw [← hAK.2.2 2] at hl
  rw [← hAK.2.2 3] at hl
  rw [← hAK.2.2 4] at hl
  rw [← hAK.2.2 5] at hl
  rw [← hAK.2.2 6] at hl
  rw [← hAK.2.2 7] at hl
  rw [← hAK.2.2 8] at hl
  rw [← hAK.2.2 9] at hl
  rw [← hAK.2.2 10] at hl
  refine lv_ldc (v := (-2000000)) hx hb Z.1.2.2.2.1 (Z.1.2.2.2.2 _ (inU_1 _ (List.mem_of_getElem? (i := 4) rfl))) dL_law_95 ?_
  refine lv_icmp_ne (tgt := 195) hx hb dL_law_97 (by decide) (fun c_97 => ?_) (fun c_97 => ?_)
  · exact absurd rfl c_97
  · refine W.widen (k := 80) (n := 3800) (by omega) (by omega) ?_
    exact lz_c hE Z h0 h1 h2 h3 hI K _ _ _ X (lv_sub hl [0, 1, 2, 3, 4, 5, 6, 7, 8, 9, 10, 11, 12] rfl)
set_option maxHeartbeats 4000000 in
set_option maxRecDepth 100000 in
theorem lz_a {p : Program} {l : Launch} {e : Env} {s : State} {m : MethodId} {below : List Frame} {meth : Method} {c : Code} {E : State} {G : kG} {o : Int64} {Q : State → Prop} {b : Nat} {S T : kSt} {ad : kAd} (hE : kE l E G) (Z : kZ p m c code 24 s #[Value.ref b] wsL_law RL E G) (h0 : S.2 0 0 = 0) (h1 : S.2 0 1 = 0) (h2 : S.2 0 2 = 0) (h3 : S.2 0 3 = 0) (hI : Iv 0 S T) (K : lwH p l e s m below meth c E G b 0 o Q) : ∀ (H : Heap) (locs : List Loc) (ls : Array Slot), kX E G s H locs ad (cto G S T o ad) → lv_has ls 24 [(0, .ref b), (1, .ref (ad 0 0)), (2, .ref (ad 17 0)), (3, .ref (ad 17 1)), (4, .ref (ad 17 2)), (5, .ref (ad 17 3)), (6, .ref (ad 17 4)), (7, .ref (ad 17 5)), (8, .ref (ad 17 6)), (9, .ref (ad 17 7)), (10, .ref (ad 17 8)), (11, .ref (ad 17 9)), (12, .ref (ad 17 10))] → W p l e room_1 s m #[Value.ref b] below meth c H locs 40 3000 Q (F0 m 72 ls []) := by
  intro H locs ls X hl
  have hx := Z.1.1
  have hb := Z.1.2.1
  have hT := hI.lt
  obtain ⟨hS, hL, hK9, hLg, hRp, hlog9, hB⟩ := hI.1.ok
  have hN := hS
  have hlog : S.2 0 4 < 512 := by omega
  obtain ⟨hc0, hc1, hc2, hc3⟩ := hT.c
  refine lv_aload_n hx hb dL_law_72 rfl (lv_at hl 1 rfl) ?_
  refine lv_iconst (v := 0) hx hb dL_law_73 (by decide) ?_
  refine lv_iconst (v := 4) hx hb dL_law_74 (by decide) ?_
  refine lv_iconst (v := 0) hx hb dL_law_75 (by decide) ?_
  refine lv_iconst (v := 0) hx hb dL_law_76 (by decide) ?_
  refine lv_iconst (v := 0) hx hb dL_law_77 (by decide) ?_
  refine k_xRi X (k_xrunSW (As := [.ref (ad 0 0), .int 0, .int 4, .int 0, .int 0, .int 0]) (rest := []) Z X (c_L_does_0 l E G S T o ad 4 0 0 0 hE hS hL) (k_cwSW 6 Z.1.2.2.2.2 (inU_6 _ (List.mem_of_getElem? (i := 3) rfl)) (inU_6 _ (List.mem_of_getElem? (i := 4) rfl)) (inU_6 _ (List.mem_of_getElem? (i := 5) rfl)) (inU_6 _ (List.mem_of_getElem? (i := 6) rfl)) rfl rfl (by decide +kernel) ⟨(Nat.le_of_ble_eq_true rfl), (Nat.le_of_ble_eq_true rfl)⟩) rfl hl.1 rfl (Nat.le_of_ble_eq_true rfl) dL_law_78 ⟨(by first | exact rm_c (by omega) | exact rm_s (by omega)), (by first | exact rm_c (by omega) | exact rm_s (by omega))⟩) (fun _ _ _ _ _ _ _ hp => hp.elim) (fun r_78 ad1 ct1 H locs hp X => ?_)
  have hC : cUser S 4 = 1 := by rw [cUser, if_pos (by decide)]
  obtain ⟨hAK, hq⟩ := hp
  rcases hq with ⟨z, -⟩ | ⟨z, hr_, hb_⟩ | ⟨z, -⟩ | ⟨z, -⟩
  case inl => exact absurd (hC.symm.trans z) (by decide)
  case inr.inr.inl => exact absurd (hC.symm.trans z) (by decide)
  case inr.inr.inr => exact absurd (hC.symm.trans z) (by decide)
  subst hr_
  rw [hb_] at X
  rw [← hAK.1] at hl
  rw [← hAK.2.2 0] at hl
  rw [← hAK.2.2 1] at hl
  rw [← hAK.2.2 2] at hl
  rw [← hAK.2.2 3] at hl
  rw [← hAK.2.2 4] at hl
  rw [← hAK.2.2 5] at hl
  rw [← hAK.2.2 6] at hl
  rw [← hAK.2.2 7] at hl
  rw [← hAK.2.2 8] at hl
  rw [← hAK.2.2 9] at hl
  rw [← hAK.2.2 10] at hl
  refine lv_ldc (v := (-2000000)) hx hb Z.1.2.2.2.1 (Z.1.2.2.2.2 _ (inU_1 _ (List.mem_of_getElem? (i := 4) rfl))) dL_law_81 ?_
  refine lv_icmp_ne (tgt := 195) hx hb dL_law_83 (by decide) (fun c_83 => ?_) (fun c_83 => ?_)
  · exact absurd rfl c_83
  · refine W.widen (k := 60) (n := 3400) (by omega) (by omega) ?_
    exact lz_b hE Z h0 h1 h2 h3 hI K _ _ _ X (lv_sub hl [0, 1, 2, 3, 4, 5, 6, 7, 8, 9, 10, 11, 12] rfl)
set_option maxHeartbeats 4000000 in
set_option maxRecDepth 100000 in
/-- THE LAW, from its entry -/
theorem whole_start {p : Program} {e : Env} {s : State} {m : MethodId} {below : List Frame} {meth : Method} {c : Code} (l : Launch) (hflags : l.flags = flags0) {b L : Nat} {xs : Nat → Int32} (hL : L ≤ 260) (C0 : lw_At p s m meth c b L xs) : W p l e room_1 s m #[Value.ref b] below meth c s.heap [] 0 0 (lw_Z below #[Value.ref b] s) (entryFrame m ([Value.ref b] : List Value).toArray 24) := by
  obtain ⟨hx, hb, hr, hml, hown, hts, hX, hbl, hlocks, hgv⟩ := id C0
  obtain ⟨G, hE, hK⟩ := kE_at l hflags hts hgv
  have Z : kZ p m c code 24 s #[Value.ref b] wsL_law RL s G := ⟨⟨hx, hb, hml, hown, ws_holds hts⟩, ⟨State.WarmedH.refl s, Nat.le_refl _, fun _ _ => rfl⟩, hK⟩
  have X : kX s G s s.heap [] (fun _ _ => 0) (fun _ _ => none) := kX.of ⟨Nat.le_refl _, (fun _ _ _ h => by cases h), (fun _ _ _ _ _ _ h => by cases h)⟩
  have hl := lv_entry ([.ref b]) (n := 24) (Nat.le_of_ble_eq_true rfl)
  rw [lg_entry_eq]
  generalize (lg_sl ([.ref b]) ++ List.replicate (24 - (lg_sl ([.ref b])).length) Slot.unset).toArray = ls at hl ⊢
  have hl : lv_has ls 24 [(0, .ref b)] := hl
  refine k_new (fs := [.null, .null, .null, .null, .null, .null, .null, .int 0]) (ci := 10) (ty0 := tyX7) 0 0 Z X inlX7 tyX7_ok rfl (inU_1 _ (List.mem_of_getElem? (i := 0) rfl)) (inU_1 _ (List.mem_of_getElem? (i := 1) rfl)) (inU_1 _ (List.mem_of_getElem? (i := 2) rfl)) (fun j hj => by match j, hj with | 0, _ => rfl | 1, _ => rfl | 2, _ => rfl | 3, _ => rfl | 4, _ => rfl | 5, _ => rfl | 6, _ => rfl | 7, _ => rfl) (Nat.le_of_ble_eq_true rfl) (Nat.le_of_ble_eq_true rfl) dL_law_0 (fun z H X => ?_)
  obtain ⟨adA, hadA⟩ : ∃ y, y = aup (fun _ _ => 0) 0 0 z := ⟨_, rfl⟩
  obtain ⟨ctA, hctA⟩ : ∃ y, y = cup (fun _ _ => none) 0 0 (.inr (10, [.null, .null, .null, .null, .null, .null, .null, .int 0])) := ⟨_, rfl⟩
  rw [← hadA, ← hctA] at X
  have eN : adA 0 0 = z := by rw [hadA]; exact aup_s
  subst eN
  have hcA : ctA 0 0 = some (.inr (10, [.null, .null, .null, .null, .null, .null, .null, .int 0])) := by rw [hctA]; exact cup_s
  have h98 : ctA 98 0 = none := by rw [hctA]; exact cup_n (by simp)
  refine lv_dup hx hb dL_law_3 rfl ?_
  refine k_Rv X (k_runI (As := []) (rest := [.ref (adA 0 0)]) Z X (c_X7_init l s G adA ctA kT0 0 hE hcA h98) (k_cwI 0 Z.1.2.2.2.2 (inU_1 _ (List.mem_of_getElem? (i := 9) rfl)) (inU_1 _ (List.mem_of_getElem? (i := 10) rfl)) (inU_1 _ (List.mem_of_getElem? (i := 2) rfl)) (inU_1 _ (List.mem_of_getElem? (i := 11) rfl)) rfl rfl rfl (by decide +kernel) ⟨Nat.le_of_ble_eq_true rfl, Nat.le_of_ble_eq_true rfl⟩) rfl hl.1 rfl (Nat.le_of_ble_eq_true rfl) dL_law_4 ⟨(by first | exact rm_c (by omega) | exact rm_s (by omega)), (by first | exact rm_c (by omega) | exact rm_s (by omega))⟩) (fun ad1 ct1 H locs hp X => ?_)
  obtain ⟨e0, cap, hcap, hw⟩ := hp
  obtain ⟨adB, hadB⟩ : ∃ y, y = ad1 := ⟨_, rfl⟩
  obtain ⟨ctB, hctB⟩ : ∃ y, y = ct1 := ⟨_, rfl⟩
  rw [← hadB, ← hctB] at X hw
  rw [← hadB] at e0
  refine W.eq (congrArg (fun y => F0 m 7 ls [.ref y]) e0.symm) ?_
  have hm := mk17.z G adB ctB
  refine lv_astore_n (lv' := [(1, .ref (adB 0 0)), (0, .ref b)]) hx hb dL_law_7 rfl hl (by decide) rfl (fun ls hl => ?_)
  refine lv_bipush (v := 16) hx hb dL_law_8 (by decide) ?_
  refine k_newa (atype := .int) (ty := .int) (t0 := 1) (N' := 16) (a0 := (16, .inl (fun _ => 0))) 17 0 Z X (inU_1 _ (List.mem_of_getElem? (i := 3) rfl)) rfl rfl (fun h => h) rfl (by decide) rfl (by decide) (Nat.le_of_ble_eq_true rfl) (Nat.le_of_ble_eq_true rfl) dL_law_10 (fun z H X => ?_)
  have hm := hm.st z (show marr G kT0 0 = some (.inl (G.2.2.1, 16, .inl (fun _ => 0))) from rfl)
  obtain ⟨ad_0, ct_0, hm, X, hz, hq⟩ : ∃ (ad9 : kAd) (ct9 : kCt), mk17 G 1 adB ctB ad9 ct9 ∧ kX s G s H _ ad9 ct9 ∧ ad9 17 0 = z ∧ ∀ k1 i1, ¬ (k1 = 17 ∧ i1 = 0) → ad9 k1 i1 = adB k1 i1 := ⟨_, _, hm, X, aup_s, fun k1 i1 hh => aup_n hh⟩
  rw [← hz]
  rw [← hq 0 0 (by decide)] at hl
  refine lv_astore_n (lv' := [(2, .ref (ad_0 17 0)), (1, .ref (ad_0 0 0)), (0, .ref b)]) hx hb dL_law_12 rfl hl (by decide) rfl (fun ls hl => ?_)
  refine lv_bipush (v := 30) hx hb dL_law_13 (by decide) ?_
  refine k_newa (atype := .int) (ty := .int) (t0 := 1) (N' := 30) (a0 := (30, .inl (fun _ => 0))) 17 1 Z X (inU_1 _ (List.mem_of_getElem? (i := 3) rfl)) rfl rfl (fun h => h) rfl (by decide) rfl (by decide) (Nat.le_of_ble_eq_true rfl) (Nat.le_of_ble_eq_true rfl) dL_law_15 (fun z H X => ?_)
  have hm := hm.st z (show marr G kT0 1 = some (.inl (G.2.2.1, 30, .inl (fun _ => 0))) from rfl)
  obtain ⟨ad_1, ct_1, hm, X, hz, hq⟩ : ∃ (ad9 : kAd) (ct9 : kCt), mk17 G 2 adB ctB ad9 ct9 ∧ kX s G s H _ ad9 ct9 ∧ ad9 17 1 = z ∧ ∀ k1 i1, ¬ (k1 = 17 ∧ i1 = 1) → ad9 k1 i1 = ad_0 k1 i1 := ⟨_, _, hm, X, aup_s, fun k1 i1 hh => aup_n hh⟩
  rw [← hz]
  rw [← hq 0 0 (by decide), ← hq 17 0 (by decide)] at hl
  refine lv_astore_n (lv' := [(3, .ref (ad_1 17 1)), (2, .ref (ad_1 17 0)), (1, .ref (ad_1 0 0)), (0, .ref b)]) hx hb dL_law_17 rfl hl (by decide) rfl (fun ls hl => ?_)
  refine lv_bipush (v := 30) hx hb dL_law_18 (by decide) ?_
  refine k_newa (atype := .int) (ty := .int) (t0 := 1) (N' := 30) (a0 := (30, .inl (fun _ => 0))) 17 2 Z X (inU_1 _ (List.mem_of_getElem? (i := 3) rfl)) rfl rfl (fun h => h) rfl (by decide) rfl (by decide) (Nat.le_of_ble_eq_true rfl) (Nat.le_of_ble_eq_true rfl) dL_law_20 (fun z H X => ?_)
  have hm := hm.st z (show marr G kT0 2 = some (.inl (G.2.2.1, 30, .inl (fun _ => 0))) from rfl)
  obtain ⟨ad_2, ct_2, hm, X, hz, hq⟩ : ∃ (ad9 : kAd) (ct9 : kCt), mk17 G 3 adB ctB ad9 ct9 ∧ kX s G s H _ ad9 ct9 ∧ ad9 17 2 = z ∧ ∀ k1 i1, ¬ (k1 = 17 ∧ i1 = 2) → ad9 k1 i1 = ad_1 k1 i1 := ⟨_, _, hm, X, aup_s, fun k1 i1 hh => aup_n hh⟩
  rw [← hz]
  rw [← hq 0 0 (by decide), ← hq 17 0 (by decide), ← hq 17 1 (by decide)] at hl
  refine lv_astore (lv' := [(4, .ref (ad_2 17 2)), (3, .ref (ad_2 17 1)), (2, .ref (ad_2 17 0)), (1, .ref (ad_2 0 0)), (0, .ref b)]) hx hb dL_law_22 hl (by decide) rfl (fun ls hl => ?_)
  refine lv_bipush (v := 30) hx hb dL_law_24 (by decide) ?_
  refine k_newa (atype := .int) (ty := .int) (t0 := 1) (N' := 30) (a0 := (30, .inl (fun _ => 0))) 17 3 Z X (inU_1 _ (List.mem_of_getElem? (i := 3) rfl)) rfl rfl (fun h => h) rfl (by decide) rfl (by decide) (Nat.le_of_ble_eq_true rfl) (Nat.le_of_ble_eq_true rfl) dL_law_26 (fun z H X => ?_)
  have hm := hm.st z (show marr G kT0 3 = some (.inl (G.2.2.1, 30, .inl (fun _ => 0))) from rfl)
  obtain ⟨ad_3, ct_3, hm, X, hz, hq⟩ : ∃ (ad9 : kAd) (ct9 : kCt), mk17 G 4 adB ctB ad9 ct9 ∧ kX s G s H _ ad9 ct9 ∧ ad9 17 3 = z ∧ ∀ k1 i1, ¬ (k1 = 17 ∧ i1 = 3) → ad9 k1 i1 = ad_2 k1 i1 := ⟨_, _, hm, X, aup_s, fun k1 i1 hh => aup_n hh⟩
  rw [← hz]
  rw [← hq 0 0 (by decide), ← hq 17 0 (by decide), ← hq 17 1 (by decide), ← hq 17 2 (by decide)] at hl
  refine lv_astore (lv' := [(5, .ref (ad_3 17 3)), (4, .ref (ad_3 17 2)), (3, .ref (ad_3 17 1)), (2, .ref (ad_3 17 0)), (1, .ref (ad_3 0 0)), (0, .ref b)]) hx hb dL_law_28 hl (by decide) rfl (fun ls hl => ?_)
  refine lv_bipush (v := 30) hx hb dL_law_30 (by decide) ?_
  refine k_newa (atype := .int) (ty := .int) (t0 := 1) (N' := 30) (a0 := (30, .inl (fun _ => 0))) 17 4 Z X (inU_1 _ (List.mem_of_getElem? (i := 3) rfl)) rfl rfl (fun h => h) rfl (by decide) rfl (by decide) (Nat.le_of_ble_eq_true rfl) (Nat.le_of_ble_eq_true rfl) dL_law_32 (fun z H X => ?_)
  have hm := hm.st z (show marr G kT0 4 = some (.inl (G.2.2.1, 30, .inl (fun _ => 0))) from rfl)
  obtain ⟨ad_4, ct_4, hm, X, hz, hq⟩ : ∃ (ad9 : kAd) (ct9 : kCt), mk17 G 5 adB ctB ad9 ct9 ∧ kX s G s H _ ad9 ct9 ∧ ad9 17 4 = z ∧ ∀ k1 i1, ¬ (k1 = 17 ∧ i1 = 4) → ad9 k1 i1 = ad_3 k1 i1 := ⟨_, _, hm, X, aup_s, fun k1 i1 hh => aup_n hh⟩
  rw [← hz]
  rw [← hq 0 0 (by decide), ← hq 17 0 (by decide), ← hq 17 1 (by decide), ← hq 17 2 (by decide), ← hq 17 3 (by decide)] at hl
  refine lv_astore (lv' := [(6, .ref (ad_4 17 4)), (5, .ref (ad_4 17 3)), (4, .ref (ad_4 17 2)), (3, .ref (ad_4 17 1)), (2, .ref (ad_4 17 0)), (1, .ref (ad_4 0 0)), (0, .ref b)]) hx hb dL_law_34 hl (by decide) rfl (fun ls hl => ?_)
  refine lv_bipush (v := 16) hx hb dL_law_36 (by decide) ?_
  refine k_newa (atype := .int) (ty := .int) (t0 := 1) (N' := 16) (a0 := (16, .inl (fun _ => 0))) 17 5 Z X (inU_1 _ (List.mem_of_getElem? (i := 3) rfl)) rfl rfl (fun h => h) rfl (by decide) rfl (by decide) (Nat.le_of_ble_eq_true rfl) (Nat.le_of_ble_eq_true rfl) dL_law_38 (fun z H X => ?_)
  have hm := hm.st z (show marr G kT0 5 = some (.inl (G.2.2.1, 16, .inl (fun _ => 0))) from rfl)
  obtain ⟨ad_5, ct_5, hm, X, hz, hq⟩ : ∃ (ad9 : kAd) (ct9 : kCt), mk17 G 6 adB ctB ad9 ct9 ∧ kX s G s H _ ad9 ct9 ∧ ad9 17 5 = z ∧ ∀ k1 i1, ¬ (k1 = 17 ∧ i1 = 5) → ad9 k1 i1 = ad_4 k1 i1 := ⟨_, _, hm, X, aup_s, fun k1 i1 hh => aup_n hh⟩
  rw [← hz]
  rw [← hq 0 0 (by decide), ← hq 17 0 (by decide), ← hq 17 1 (by decide), ← hq 17 2 (by decide), ← hq 17 3 (by decide), ← hq 17 4 (by decide)] at hl
  refine lv_astore (lv' := [(7, .ref (ad_5 17 5)), (6, .ref (ad_5 17 4)), (5, .ref (ad_5 17 3)), (4, .ref (ad_5 17 2)), (3, .ref (ad_5 17 1)), (2, .ref (ad_5 17 0)), (1, .ref (ad_5 0 0)), (0, .ref b)]) hx hb dL_law_40 hl (by decide) rfl (fun ls hl => ?_)
  refine lv_bipush (v := 30) hx hb dL_law_42 (by decide) ?_
  refine k_newa (atype := .int) (ty := .int) (t0 := 1) (N' := 30) (a0 := (30, .inl (fun _ => 0))) 17 6 Z X (inU_1 _ (List.mem_of_getElem? (i := 3) rfl)) rfl rfl (fun h => h) rfl (by decide) rfl (by decide) (Nat.le_of_ble_eq_true rfl) (Nat.le_of_ble_eq_true rfl) dL_law_44 (fun z H X => ?_)
  have hm := hm.st z (show marr G kT0 6 = some (.inl (G.2.2.1, 30, .inl (fun _ => 0))) from rfl)
  obtain ⟨ad_6, ct_6, hm, X, hz, hq⟩ : ∃ (ad9 : kAd) (ct9 : kCt), mk17 G 7 adB ctB ad9 ct9 ∧ kX s G s H _ ad9 ct9 ∧ ad9 17 6 = z ∧ ∀ k1 i1, ¬ (k1 = 17 ∧ i1 = 6) → ad9 k1 i1 = ad_5 k1 i1 := ⟨_, _, hm, X, aup_s, fun k1 i1 hh => aup_n hh⟩
  rw [← hz]
  rw [← hq 0 0 (by decide), ← hq 17 0 (by decide), ← hq 17 1 (by decide), ← hq 17 2 (by decide), ← hq 17 3 (by decide), ← hq 17 4 (by decide), ← hq 17 5 (by decide)] at hl
  refine lv_astore (lv' := [(8, .ref (ad_6 17 6)), (7, .ref (ad_6 17 5)), (6, .ref (ad_6 17 4)), (5, .ref (ad_6 17 3)), (4, .ref (ad_6 17 2)), (3, .ref (ad_6 17 1)), (2, .ref (ad_6 17 0)), (1, .ref (ad_6 0 0)), (0, .ref b)]) hx hb dL_law_46 hl (by decide) rfl (fun ls hl => ?_)
  refine lv_bipush (v := 30) hx hb dL_law_48 (by decide) ?_
  refine k_newa (atype := .int) (ty := .int) (t0 := 1) (N' := 30) (a0 := (30, .inl (fun _ => 0))) 17 7 Z X (inU_1 _ (List.mem_of_getElem? (i := 3) rfl)) rfl rfl (fun h => h) rfl (by decide) rfl (by decide) (Nat.le_of_ble_eq_true rfl) (Nat.le_of_ble_eq_true rfl) dL_law_50 (fun z H X => ?_)
  have hm := hm.st z (show marr G kT0 7 = some (.inl (G.2.2.1, 30, .inl (fun _ => 0))) from rfl)
  obtain ⟨ad_7, ct_7, hm, X, hz, hq⟩ : ∃ (ad9 : kAd) (ct9 : kCt), mk17 G 8 adB ctB ad9 ct9 ∧ kX s G s H _ ad9 ct9 ∧ ad9 17 7 = z ∧ ∀ k1 i1, ¬ (k1 = 17 ∧ i1 = 7) → ad9 k1 i1 = ad_6 k1 i1 := ⟨_, _, hm, X, aup_s, fun k1 i1 hh => aup_n hh⟩
  rw [← hz]
  rw [← hq 0 0 (by decide), ← hq 17 0 (by decide), ← hq 17 1 (by decide), ← hq 17 2 (by decide), ← hq 17 3 (by decide), ← hq 17 4 (by decide), ← hq 17 5 (by decide), ← hq 17 6 (by decide)] at hl
  refine lv_astore (lv' := [(9, .ref (ad_7 17 7)), (8, .ref (ad_7 17 6)), (7, .ref (ad_7 17 5)), (6, .ref (ad_7 17 4)), (5, .ref (ad_7 17 3)), (4, .ref (ad_7 17 2)), (3, .ref (ad_7 17 1)), (2, .ref (ad_7 17 0)), (1, .ref (ad_7 0 0)), (0, .ref b)]) hx hb dL_law_52 hl (by decide) rfl (fun ls hl => ?_)
  refine lv_bipush (v := 31) hx hb dL_law_54 (by decide) ?_
  refine k_newa (atype := .int) (ty := .int) (t0 := 1) (N' := 31) (a0 := (31, .inl (fun _ => 0))) 17 8 Z X (inU_1 _ (List.mem_of_getElem? (i := 3) rfl)) rfl rfl (fun h => h) rfl (by decide) rfl (by decide) (Nat.le_of_ble_eq_true rfl) (Nat.le_of_ble_eq_true rfl) dL_law_56 (fun z H X => ?_)
  have hm := hm.st z (show marr G kT0 8 = some (.inl (G.2.2.1, 31, .inl (fun _ => 0))) from rfl)
  obtain ⟨ad_8, ct_8, hm, X, hz, hq⟩ : ∃ (ad9 : kAd) (ct9 : kCt), mk17 G 9 adB ctB ad9 ct9 ∧ kX s G s H _ ad9 ct9 ∧ ad9 17 8 = z ∧ ∀ k1 i1, ¬ (k1 = 17 ∧ i1 = 8) → ad9 k1 i1 = ad_7 k1 i1 := ⟨_, _, hm, X, aup_s, fun k1 i1 hh => aup_n hh⟩
  rw [← hz]
  rw [← hq 0 0 (by decide), ← hq 17 0 (by decide), ← hq 17 1 (by decide), ← hq 17 2 (by decide), ← hq 17 3 (by decide), ← hq 17 4 (by decide), ← hq 17 5 (by decide), ← hq 17 6 (by decide), ← hq 17 7 (by decide)] at hl
  refine lv_astore (lv' := [(10, .ref (ad_8 17 8)), (9, .ref (ad_8 17 7)), (8, .ref (ad_8 17 6)), (7, .ref (ad_8 17 5)), (6, .ref (ad_8 17 4)), (5, .ref (ad_8 17 3)), (4, .ref (ad_8 17 2)), (3, .ref (ad_8 17 1)), (2, .ref (ad_8 17 0)), (1, .ref (ad_8 0 0)), (0, .ref b)]) hx hb dL_law_58 hl (by decide) rfl (fun ls hl => ?_)
  refine lv_bipush (v := 30) hx hb dL_law_60 (by decide) ?_
  refine k_newa (atype := .int) (ty := .int) (t0 := 1) (N' := 30) (a0 := (30, .inl (fun _ => 0))) 17 9 Z X (inU_1 _ (List.mem_of_getElem? (i := 3) rfl)) rfl rfl (fun h => h) rfl (by decide) rfl (by decide) (Nat.le_of_ble_eq_true rfl) (Nat.le_of_ble_eq_true rfl) dL_law_62 (fun z H X => ?_)
  have hm := hm.st z (show marr G kT0 9 = some (.inl (G.2.2.1, 30, .inl (fun _ => 0))) from rfl)
  obtain ⟨ad_9, ct_9, hm, X, hz, hq⟩ : ∃ (ad9 : kAd) (ct9 : kCt), mk17 G 10 adB ctB ad9 ct9 ∧ kX s G s H _ ad9 ct9 ∧ ad9 17 9 = z ∧ ∀ k1 i1, ¬ (k1 = 17 ∧ i1 = 9) → ad9 k1 i1 = ad_8 k1 i1 := ⟨_, _, hm, X, aup_s, fun k1 i1 hh => aup_n hh⟩
  rw [← hz]
  rw [← hq 0 0 (by decide), ← hq 17 0 (by decide), ← hq 17 1 (by decide), ← hq 17 2 (by decide), ← hq 17 3 (by decide), ← hq 17 4 (by decide), ← hq 17 5 (by decide), ← hq 17 6 (by decide), ← hq 17 7 (by decide), ← hq 17 8 (by decide)] at hl
  refine lv_astore (lv' := [(11, .ref (ad_9 17 9)), (10, .ref (ad_9 17 8)), (9, .ref (ad_9 17 7)), (8, .ref (ad_9 17 6)), (7, .ref (ad_9 17 5)), (6, .ref (ad_9 17 4)), (5, .ref (ad_9 17 3)), (4, .ref (ad_9 17 2)), (3, .ref (ad_9 17 1)), (2, .ref (ad_9 17 0)), (1, .ref (ad_9 0 0)), (0, .ref b)]) hx hb dL_law_64 hl (by decide) rfl (fun ls hl => ?_)
  refine lv_bipush (v := 6) hx hb dL_law_66 (by decide) ?_
  refine k_newa (atype := .int) (ty := .int) (t0 := 1) (N' := 6) (a0 := (6, .inl (fun _ => 0))) 17 10 Z X (inU_1 _ (List.mem_of_getElem? (i := 3) rfl)) rfl rfl (fun h => h) rfl (by decide) rfl (by decide) (Nat.le_of_ble_eq_true rfl) (Nat.le_of_ble_eq_true rfl) dL_law_68 (fun z H X => ?_)
  have hm := hm.st z (show marr G kT0 10 = some (.inl (G.2.2.1, 6, .inl (fun _ => 0))) from rfl)
  obtain ⟨ad_10, ct_10, hm, X, hz, hq⟩ : ∃ (ad9 : kAd) (ct9 : kCt), mk17 G 11 adB ctB ad9 ct9 ∧ kX s G s H _ ad9 ct9 ∧ ad9 17 10 = z ∧ ∀ k1 i1, ¬ (k1 = 17 ∧ i1 = 10) → ad9 k1 i1 = ad_9 k1 i1 := ⟨_, _, hm, X, aup_s, fun k1 i1 hh => aup_n hh⟩
  rw [← hz]
  rw [← hq 0 0 (by decide), ← hq 17 0 (by decide), ← hq 17 1 (by decide), ← hq 17 2 (by decide), ← hq 17 3 (by decide), ← hq 17 4 (by decide), ← hq 17 5 (by decide), ← hq 17 6 (by decide), ← hq 17 7 (by decide), ← hq 17 8 (by decide), ← hq 17 9 (by decide)] at hl
  refine lv_astore (lv' := [(12, .ref (ad_10 17 10)), (11, .ref (ad_10 17 9)), (10, .ref (ad_10 17 8)), (9, .ref (ad_10 17 7)), (8, .ref (ad_10 17 6)), (7, .ref (ad_10 17 5)), (6, .ref (ad_10 17 4)), (5, .ref (ad_10 17 3)), (4, .ref (ad_10 17 2)), (3, .ref (ad_10 17 1)), (2, .ref (ad_10 17 0)), (1, .ref (ad_10 0 0)), (0, .ref b)]) hx hb dL_law_70 hl (by decide) rfl (fun ls hl => ?_)
  have X : kX s G s H _ ad_10 (cto G (kS0 cap) kT0 0 ad_10) := X.drop (fun k i e h => ⟨start_ct hw hm k i e h, rfl⟩)
  refine W.widen (k := 40) (n := 3000) (Nat.le_of_ble_eq_true rfl) (Nat.le_of_ble_eq_true rfl) ?_
  exact lz_a hE Z (kS0_2 (by decide)) (kS0_2 (by decide)) (kS0_2 (by decide)) (kS0_2 (by decide)) (iv_0 hcap) (law_loop hE Z hX hbl (by omega) hr hlocks 64 0 rfl) _ _ _ X (lv_sub hl [12, 11, 10, 9, 8, 7, 6, 5, 4, 3, 2, 1, 0] rfl)
