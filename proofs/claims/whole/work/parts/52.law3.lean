/-! THE LAW: its loop, from its entry -/
theorem lp_gt {i L : Nat} (hi : i < 2 ^ 30) (hL : L ≤ 2560) (h : ¬ nI L - 5 < nI i) : i + 5 ≤ L := by
  have e : (nI L - 5).toInt = (L : Int) - 5 := pk_sub_toInt (a := L) (b := 5) (by omega) (by decide)
  rw [Int32.lt_iff_toInt_lt, e, nI_toInt (by omega)] at h
  omega
theorem lknd_lt (l : Nat) : lknd l < 16 := by
  match l with
  | 0 => decide
  | 1 => decide
  | 2 => decide
  | 3 => decide
  | _ + 4 => exact (by decide : (9 : Nat) < 16)
theorem cto_lo {G : kG} {S T : kSt} {o : Int64} {ad ad' : kAd} (h : ∀ k i, k < 16 → ad' k i = ad k i) : ∀ k i, k < 16 → cto G S T o ad' k i = cto G S T o ad k i := by
  intro k i hk
  match k, hk with
  | 0, _ => simp only [cto, h 1 0 (by decide), h 1 1 (by decide), h 1 2 (by decide), h 1 3 (by decide), h 1 4 (by decide), h 12 0 (by decide), h 14 0 (by decide)]
  | 1, _ => simp only [cto, h 2 i (by decide)]
  | 2, _ =>
    have hf : ∀ j, ad' (lknd i) j = ad (lknd i) j := fun j => h _ _ (lknd_lt i)
    simp only [cto, hf]
  | 3, _ => simp only [cto]
  | 4, _ => simp only [cto]
  | 5, _ => simp only [cto, h 4 (S.2 1 i) (by decide), h 3 (S.2 2 i) (by decide), h 6 i (by decide)]
  | 6, _ => simp only [cto, h 7 i (by decide)]
  | 7, _ => simp only [cto]
  | 8, _ => simp only [cto, h 5 (S.2 3 i) (by decide)]
  | 9, _ => simp only [cto, h 4 (S.2 5 i) (by decide), h 10 i (by decide)]
  | 10, _ => simp only [cto, h 11 i (by decide)]
  | 11, _ => simp only [cto]
  | 12, _ => simp only [cto, h 13 0 (by decide), h 13 1 (by decide), h 13 2 (by decide)]
  | 13, _ => simp only [cto]
  | 14, _ => simp only [cto, h 15 0 (by decide)]
  | 15, _ => simp only [cto]
  | k + 16, hk => omega
theorem marr_hi {G : kG} {T : kSt} {i : Nat} (h : 22 ≤ i) : marr G T i = none := by
  unfold marr
  split <;> first | omega | rfl
theorem start_ct {G : kG} {cap z1 z2 : Nat} {adB adC adD adF : kAd} {ctB ctC ctD ctF : kCt} {c0 : va_E} (hw : ∀ k i e, k < 16 → cto G (kS0 cap) kT0 0 adB k i = some e → ctB k i = some e) (hCa : adC = aup adB 16 0 z1) (hCc : ctC = cup ctB 16 0 c0) (hm : mkA 16 17 m8c (marr G kT0) 22 adC ctC adD ctD) (hFa : adF = aup adD 18 0 z2) (hFc : ctF = cup ctD 18 0 (.inl (G.2.2.2.2.2.1, 1, .inr (.inl (fun _ => 0))))) : ∀ k i e, cto G (kS0 cap) kT0 0 adF k i = some e → ctF k i = some e := by
  obtain ⟨m1, m2, m3, m4⟩ := hm
  intro k i e h
  by_cases hk : k < 16
  · have ha : ∀ k i, k < 16 → adF k i = adB k i := fun k i hk => by
      rw [hFa, aup_n (by omega), m1 k i (by omega), hCa, aup_n (by omega)]
    rw [cto_lo ha k i hk] at h
    rw [hFc, cup_n (by omega), m4 k i (by omega) (by omega), hCc, cup_n (by omega)]
    exact hw k i e hk h
  · match k, hk with
    | 16, _ =>
      by_cases hi : i = 0
      · subst hi
        rw [← h, hFc, cup_n (by simp), m2, hFa]
        rfl
      · simp only [cto] at h
        rw [if_neg hi] at h
        cases h
    | 17, _ =>
      have h : marr G kT0 i = some e := h
      by_cases hi : i < 22
      · rw [hFc, cup_n (by simp), m3 i hi]; exact h
      · rw [marr_hi (by omega)] at h; cases h
    | 18, _ =>
      by_cases hi : i = 0
      · subst hi
        rw [← h, hFc, cup_s]
        rfl
      · simp only [cto] at h
        rw [if_neg hi] at h
        cases h
    | k + 19, _ => simp only [cto] at h; cases h
    | 0, hk => omega
    | 1, hk => omega
    | 2, hk => omega
    | 3, hk => omega
    | 4, hk => omega
    | 5, hk => omega
    | 6, hk => omega
    | 7, hk => omega
    | 8, hk => omega
    | 9, hk => omega
    | 10, hk => omega
    | 11, hk => omega
    | 12, hk => omega
    | 13, hk => omega
    | 14, hk => omega
    | 15, hk => omega
set_option maxHeartbeats 4000000 in
set_option maxRecDepth 100000 in
theorem law_loop {p : Program} {l : Launch} {e : Env} {s : State} {m : MethodId} {below : List Frame} {meth : Method} {c : Code} {b L : Nat} {xs : Nat → Int32} {G : kG} (hE : kE l s G) (Z : kZ p m c code 7 s #[Value.ref b] wsL_law RL s G) (hX : va_X b L xs s s.heap) (hbl : b < s.heap.size) (hL9 : L ≤ 2560) (hr : meth.sig.returnType = ret) (hlocks : meth.locks = false) : ∀ (d n : Nat) (S T : kSt) (o : Int64) (ad : kAd) (H : Heap) (locs : List Loc) (ls : Array Slot), 5 * n ≤ L + 4 → L + 5 ≤ 5 * n + 5 * d → Tie n S T → kX s G s H locs ad (cto G S T o ad) → lv_has ls 7 (lwLv b (5 * n) ad) → W p l e room_1 s m #[Value.ref b] below meth c H locs (48 + 20 * n) (5360 + 400 * n) (lw_Z below #[Value.ref b] s) (F0 m 23 ls []) := by
  intro d
  induction d with
  | zero => intro n S T o ad H locs ls h1 h2; intros; omega
  | succ d ih =>
    intro n S T o ad H locs ls h1 h2 hTie X hl0
    have hx := Z.1.1
    have hb := Z.1.2.1
    have hl : lv_has ls 7 [(4, .int (nI (5 * n))), (0, .ref b), (1, .ref (ad 0 0)), (2, .ref (ad 16 0)), (3, .ref (ad 18 0))] := hl0
    refine lv_iload hx hb dL_law_23 (lv_at hl 0 rfl) ?_
    refine lv_aload_n hx hb dL_law_25 rfl (lv_at hl 1 rfl) ?_
    refine va_slen hx hb hX hbl (Nat.not_le.mpr hbl) X.2 dL_law_26 ?_
    refine lv_iconst (v := 5) hx hb dL_law_27 (by decide) ?_
    refine lv_isub hx hb dL_law_28 ?_
    refine lv_icmp_gt (tgt := 1528) hx hb dL_law_29 (by decide) (fun c_29 => ?_) (fun c_29 => ?_)
    · refine lv_iconst (v := 1) hx hb dL_law_1528 (by decide) ?_
      refine va_forget X.2.2.2 ?_
      refine W.widen (k := 601024) (n := 7293034) (by omega) (by omega) ?_
      exact lw_ret hx hb hr hlocks dL_law_1529
    · have hi : 5 * n + 5 ≤ L := lp_gt (by omega) hL9 c_29
      have hn : n < 512 := by omega
      have r1 : (48 + 20 * n) + 20 ≤ room_1.cells := show (48 + 20 * n) + 20 ≤ 601024 by omega
      have r2 : (5360 + 400 * n) + 400 ≤ room_1.slots := show (5360 + 400 * n) + 400 ≤ 7293034 by omega
      have K : lwK p l e s m below meth c G b (5 * n) (n + 1) ((48 + 20 * n) + 20) ((5360 + 400 * n) + 400) (lw_Z below #[Value.ref b] s) := by
        intro S1 T1 o1 ad1 H1 locs1 ls1 hT1 X1 hl1
        have hl1 : lv_has ls1 7 [(4, .int (nI (5 * n))), (0, .ref b), (1, .ref (ad1 0 0)), (2, .ref (ad1 16 0)), (3, .ref (ad1 18 0))] := hl1
        refine lv_iinc (v := nI (5 * (n + 1))) (lv' := [(4, .int (nI (5 * (n + 1)))), (0, .ref b), (1, .ref (ad1 0 0)), (2, .ref (ad1 16 0)), (3, .ref (ad1 18 0))]) hx hb dL_law_1522 hl1 (k := 0) rfl (nI_add (5 * n) 5) (by decide) rfl (fun ls2 hl2 => ?_)
        refine lv_goto (tgt := 23) hx hb dL_law_1525 (by decide) ?_
        refine W.widen (k := 48 + 20 * (n + 1)) (n := 5360 + 400 * (n + 1)) (by omega) (by omega) ?_
        exact ih (n + 1) _ _ _ _ _ _ _ (by omega) (by omega) hT1 X1 hl2
      refine lv_aload_n hx hb dL_law_32 rfl (lv_at hl 1 rfl) ?_
      refine lv_iload hx hb dL_law_33 (lv_at hl 0 rfl) ?_
      refine va_sld hx hb hX hbl (Nat.not_le.mpr hbl) X.2 (vp_in_nI (show 5 * n < L by omega) (by omega)) dL_law_35 ?_
      refine lv_bipush (v := 31) hx hb dL_law_36 (by decide) ?_
      refine lv_iand hx hb dL_law_38 ?_
      obtain ⟨k, hk, ek⟩ := pk_andE (xs ((nI (5 * n)).toNatClampNeg)) (m := 31) 5 (by decide)
      rw [ek]
      have hk : k < 32 := hk
      clear ek
      match k, hk with
      | 0, _ =>
        refine lv_tableIn (off := 93) (tgt := 132) hx hb dL_law_39 (by decide) (by decide) (by decide) (by decide) ?_
        exact a_user hE Z hX hbl hTie hn X hl0 hi hL9 r1 r2 K
      | 1, _ =>
        refine lv_tableIn (off := 149) (tgt := 188) hx hb dL_law_39 (by decide) (by decide) (by decide) (by decide) ?_
        exact a_role hE Z hX hbl hTie hn X hl0 hi hL9 r1 r2 K
      | 2, _ =>
        refine lv_tableIn (off := 217) (tgt := 256) hx hb dL_law_39 (by decide) (by decide) (by decide) (by decide) ?_
        exact a_ends hE Z hX hbl hTie hn X hl0 hi hL9 r1 r2 K
      | 3, _ =>
        refine lv_tableIn (off := 285) (tgt := 324) hx hb dL_law_39 (by decide) (by decide) (by decide) (by decide) ?_
        exact a_budget hE Z hX hbl hTie hn X hl0 hi hL9 r1 r2 K
      | 4, _ =>
        refine lv_tableIn (off := 353) (tgt := 392) hx hb dL_law_39 (by decide) (by decide) (by decide) (by decide) ?_
        exact a_post hE Z hX hbl hTie hn X hl0 hi hL9 r1 r2 K
      | 5, _ =>
        refine lv_tableIn (off := 433) (tgt := 472) hx hb dL_law_39 (by decide) (by decide) (by decide) (by decide) ?_
        exact a_edit hE Z hX hbl hTie hn X hl0 hi hL9 r1 r2 K
      | 6, _ =>
        refine lv_tableIn (off := 501) (tgt := 540) hx hb dL_law_39 (by decide) (by decide) (by decide) (by decide) ?_
        exact a_mark hE Z hX hbl hTie hn X hl0 hi hL9 r1 r2 K
      | 7, _ =>
        refine lv_tableIn (off := 581) (tgt := 620) hx hb dL_law_39 (by decide) (by decide) (by decide) (by decide) ?_
        exact a_spend hE Z hX hbl hTie hn X hl0 hi hL9 r1 r2 K
      | 8, _ =>
        refine lv_tableIn (off := 661) (tgt := 700) hx hb dL_law_39 (by decide) (by decide) (by decide) (by decide) ?_
        exact a_task hE Z hX hbl hTie hn X hl0 hi hL9 r1 r2 K
      | 9, _ =>
        refine lv_tableIn (off := 753) (tgt := 792) hx hb dL_law_39 (by decide) (by decide) (by decide) (by decide) ?_
        exact a_done hE Z hX hbl hTie hn X hl0 hi hL9 r1 r2 K
      | 10, _ =>
        refine lv_tableIn (off := 821) (tgt := 860) hx hb dL_law_39 (by decide) (by decide) (by decide) (by decide) ?_
        exact a_hold hE Z hX hbl hTie hn X hl0 hi hL9 r1 r2 K
      | 11, _ =>
        refine lv_tableIn (off := 884) (tgt := 923) hx hb dL_law_39 (by decide) (by decide) (by decide) (by decide) ?_
        exact a_archive hE Z hX hbl hTie hn X hl0 hi hL9 r1 r2 K
      | 12, _ =>
        refine lv_tableIn (off := 940) (tgt := 979) hx hb dL_law_39 (by decide) (by decide) (by decide) (by decide) ?_
        exact a_pass hE Z hX hbl hTie hn X hl0 hi hL9 r1 r2 K
      | 13, _ =>
        refine lv_tableIn (off := 996) (tgt := 1035) hx hb dL_law_39 (by decide) (by decide) (by decide) (by decide) ?_
        exact a_messageOf hE Z hX hbl hTie hn X hl0 hi hL9 r1 r2 K
      | 14, _ =>
        refine lv_tableIn (off := 1064) (tgt := 1103) hx hb dL_law_39 (by decide) (by decide) (by decide) (by decide) ?_
        exact a_isApproved hE Z hX hbl hTie hn X hl0 hi hL9 r1 r2 K
      | 15, _ =>
        refine lv_tableIn (off := 1167) (tgt := 1206) hx hb dL_law_39 (by decide) (by decide) (by decide) (by decide) ?_
        exact a_spendOf hE Z hX hbl hTie hn X hl0 hi hL9 r1 r2 K
      | 16, _ =>
        refine lv_tableIn (off := 1235) (tgt := 1274) hx hb dL_law_39 (by decide) (by decide) (by decide) (by decide) ?_
        exact a_left hE Z hX hbl hTie hn X hl0 hi hL9 r1 r2 K
      | 17, _ =>
        refine lv_tableIn (off := 1291) (tgt := 1330) hx hb dL_law_39 (by decide) (by decide) (by decide) (by decide) ?_
        exact a_next hE Z hX hbl hTie hn X hl0 hi hL9 r1 r2 K
      | 18, _ =>
        refine lv_tableIn (off := 1359) (tgt := 1398) hx hb dL_law_39 (by decide) (by decide) (by decide) (by decide) ?_
        exact a_taskOf hE Z hX hbl hTie hn X hl0 hi hL9 r1 r2 K
      | 19, _ =>
        refine lv_tableIn (off := 1415) (tgt := 1454) hx hb dL_law_39 (by decide) (by decide) (by decide) (by decide) ?_
        exact a_label hE Z hX hbl hTie hn X hl0 hi hL9 r1 r2 K
      | k + 20, hk =>
        refine lv_tableOut (tgt := 1522) hx hb dL_law_39 (Or.inr ?_) (by decide) ?_
        · rw [nI_toInt (by omega)]; omega
        · refine W.widen (k := (48 + 20 * n) + 20) (n := (5360 + 400 * n) + 400) (by omega) (by omega) ?_
          exact K _ _ _ _ _ _ _ (hTie.up (Nat.le_succ n)) X hl0
set_option maxHeartbeats 4000000 in
set_option maxRecDepth 100000 in
/-- THE LAW, from its entry -/
theorem whole_start {p : Program} {e : Env} {s : State} {m : MethodId} {below : List Frame} {meth : Method} {c : Code} (l : Launch) (hflags : l.flags = flags0) {b L : Nat} {xs : Nat → Int32} (hL : L ≤ 2560) (C0 : lw_At p s m meth c b L xs) : W p l e room_1 s m #[Value.ref b] below meth c s.heap [] 0 0 (lw_Z below #[Value.ref b] s) (entryFrame m ([Value.ref b] : List Value).toArray 7) := by
  obtain ⟨hx, hb, hr, hml, hown, hts, hX, hbl, hlocks, hgv⟩ := id C0
  obtain ⟨G, hE, hK⟩ := kE_at l hflags hts hgv
  have Z : kZ p m c code 7 s #[Value.ref b] wsL_law RL s G := ⟨⟨hx, hb, hml, hown, ws_holds hts⟩, ⟨State.WarmedH.refl s, Nat.le_refl _, fun _ _ => rfl⟩, hK⟩
  have X : kX s G s s.heap [] (fun _ _ => 0) (fun _ _ => none) := kX.of ⟨Nat.le_refl _, (fun _ _ _ h => by cases h), (fun _ _ _ _ _ _ h => by cases h)⟩
  have hl := lv_entry ([.ref b]) (n := 7) (Nat.le_of_ble_eq_true rfl)
  rw [lg_entry_eq]
  generalize (lg_sl ([.ref b]) ++ List.replicate (7 - (lg_sl ([.ref b])).length) Slot.unset).toArray = ls at hl ⊢
  have hl : lv_has ls 7 [(0, .ref b)] := hl
  refine k_new (fs := [.null, .null, .null, .null, .null, .null, .null, .int 0]) (ci := 10) (ty0 := tyX7) 0 0 Z X inlX7 tyX7_ok rfl (inU_1 _ (List.mem_of_getElem? (i := 0) rfl)) (inU_1 _ (List.mem_of_getElem? (i := 1) rfl)) (inU_1 _ (List.mem_of_getElem? (i := 2) rfl)) (fun j hj => by match j, hj with | 0, _ => rfl | 1, _ => rfl | 2, _ => rfl | 3, _ => rfl | 4, _ => rfl | 5, _ => rfl | 6, _ => rfl | 7, _ => rfl) (Nat.le_of_ble_eq_true rfl) (Nat.le_of_ble_eq_true rfl) dL_law_0 (fun z H X => ?_)
  obtain ⟨adA, hadA⟩ : ∃ y, y = aup (fun _ _ => 0) 0 0 z := ⟨_, rfl⟩
  obtain ⟨ctA, hctA⟩ : ∃ y, y = cup (fun _ _ => none) 0 0 (.inr (10, [.null, .null, .null, .null, .null, .null, .null, .int 0])) := ⟨_, rfl⟩
  rw [← hadA, ← hctA] at X
  have eN : adA 0 0 = z := by rw [hadA]; exact aup_s
  subst eN
  have hcA : ctA 0 0 = some (.inr (10, [.null, .null, .null, .null, .null, .null, .null, .int 0])) := by rw [hctA]; exact cup_s
  have h98 : ctA 98 0 = none := by rw [hctA]; exact cup_n (by simp)
  refine lv_dup hx hb dL_law_3 rfl ?_
  refine k_Rv X (k_runI (As := []) (rest := [.ref (adA 0 0)]) Z X (c_X7_init l s G adA ctA kT0 0 hE hcA h98) (k_cwI 0 Z.1.2.2.2.2 (inU_1 _ (List.mem_of_getElem? (i := 7) rfl)) (inU_1 _ (List.mem_of_getElem? (i := 8) rfl)) (inU_1 _ (List.mem_of_getElem? (i := 2) rfl)) (inU_1 _ (List.mem_of_getElem? (i := 9) rfl)) rfl rfl rfl (by decide +kernel) ⟨Nat.le_of_ble_eq_true rfl, Nat.le_of_ble_eq_true rfl⟩) rfl hl.1 rfl (Nat.le_of_ble_eq_true rfl) dL_law_4 ⟨(by first | exact Nat.le_of_ble_eq_true rfl | (show _ ≤ (_ : Nat); simp only [headSpec]; omega)), (by first | exact Nat.le_of_ble_eq_true rfl | (show _ ≤ (_ : Nat); simp only [headSpec]; omega))⟩) (fun ad1 ct1 H locs hp X => ?_)
  obtain ⟨e0, cap, hcap, hw⟩ := hp
  obtain ⟨adB, hadB⟩ : ∃ y, y = ad1 := ⟨_, rfl⟩
  obtain ⟨ctB, hctB⟩ : ∃ y, y = ct1 := ⟨_, rfl⟩
  rw [← hadB, ← hctB] at X hw
  rw [← hadB] at e0
  refine W.eq (congrArg (fun y => F0 m 7 ls [.ref y]) e0.symm) ?_
  refine lv_astore_n (lv' := [(1, .ref (adB 0 0)), (0, .ref b)]) hx hb dL_law_7 rfl hl (by decide) rfl (fun ls hl => ?_)
  refine k_new (fs := [.int 0, .int 0, .null, .null, .null, .null, .int 0, .null, .null, .null, .null, .null, .null, .null, .null, .int 0, .null, .null, .null, .null, .int 0, .null, .null, .null, .null, .null, .null, .int 0, .int 0]) (ci := 11) (ty0 := tyX8) 16 0 Z X inlX8 tyX8_ok rfl (inU_1 _ (List.mem_of_getElem? (i := 3) rfl)) (inU_1 _ (List.mem_of_getElem? (i := 4) rfl)) (inU_1 _ (List.mem_of_getElem? (i := 5) rfl)) (fun j hj => by match j, hj with | 0, _ => rfl | 1, _ => rfl | 2, _ => rfl | 3, _ => rfl | 4, _ => rfl | 5, _ => rfl | 6, _ => rfl | 7, _ => rfl | 8, _ => rfl | 9, _ => rfl | 10, _ => rfl | 11, _ => rfl | 12, _ => rfl | 13, _ => rfl | 14, _ => rfl | 15, _ => rfl | 16, _ => rfl | 17, _ => rfl | 18, _ => rfl | 19, _ => rfl | 20, _ => rfl | 21, _ => rfl | 22, _ => rfl | 23, _ => rfl | 24, _ => rfl | 25, _ => rfl | 26, _ => rfl | 27, _ => rfl | 28, _ => rfl | j9 + 29, h9 => exact absurd h9 (by omega)) (Nat.le_of_ble_eq_true rfl) (Nat.le_of_ble_eq_true rfl) dL_law_8 (fun z H X => ?_)
  obtain ⟨adC, hadC⟩ : ∃ y, y = aup adB 16 0 z := ⟨_, rfl⟩
  obtain ⟨ctC, hctC⟩ : ∃ y, y = cup ctB 16 0 (.inr (11, [.int 0, .int 0, .null, .null, .null, .null, .int 0, .null, .null, .null, .null, .null, .null, .null, .null, .int 0, .null, .null, .null, .null, .int 0, .null, .null, .null, .null, .null, .null, .int 0, .int 0])) := ⟨_, rfl⟩
  rw [← hadC, ← hctC] at X
  have eN : adC 16 0 = z := by rw [hadC]; exact aup_s
  have e1 : adC 0 0 = adB 0 0 := by rw [hadC]; exact aup_n (by simp)
  rw [← e1] at hl
  rw [← eN]
  refine lv_dup hx hb dL_law_11 rfl ?_
  refine k_Rv X (k_runI (As := []) (rest := [.ref (adC 16 0)]) Z X (c_X8_init l s G adC ctC ⟨fun _ _ _ => rfl, by rw [hctC]; exact cup_s, fun q hq => absurd hq (Nat.not_lt_zero _), fun _ _ _ _ => rfl⟩) (k_cwI 0 Z.1.2.2.2.2 (inU_6 _ (List.mem_of_getElem? (i := 2) rfl)) (inU_6 _ (List.mem_of_getElem? (i := 3) rfl)) (inU_1 _ (List.mem_of_getElem? (i := 5) rfl)) (inU_6 _ (List.mem_of_getElem? (i := 4) rfl)) rfl rfl rfl (by decide +kernel) ⟨Nat.le_of_ble_eq_true rfl, Nat.le_of_ble_eq_true rfl⟩) rfl hl.1 rfl (Nat.le_of_ble_eq_true rfl) dL_law_12 ⟨(by first | exact Nat.le_of_ble_eq_true rfl | (show _ ≤ (_ : Nat); simp only [headSpec]; omega)), (by first | exact Nat.le_of_ble_eq_true rfl | (show _ ≤ (_ : Nat); simp only [headSpec]; omega))⟩) (fun ad1 ct1 H locs hp X => ?_)
  obtain ⟨adD, hadD⟩ : ∃ y, y = ad1 := ⟨_, rfl⟩
  obtain ⟨ctD, hctD⟩ : ∃ y, y = ct1 := ⟨_, rfl⟩
  rw [← hadD, ← hctD] at X hp
  have f0 : adD 0 0 = adC 0 0 := hp.1 0 0 (by decide)
  have f16 : adD 16 0 = adC 16 0 := hp.1 16 0 (by decide)
  have hmk := hp
  rw [← f0] at hl
  refine W.eq (congrArg (fun y => F0 m 15 ls [.ref y]) f16.symm) ?_
  refine lv_astore_n (lv' := [(2, .ref (adD 16 0)), (1, .ref (adD 0 0)), (0, .ref b)]) hx hb dL_law_15 rfl hl (by decide) rfl (fun ls hl => ?_)
  refine lv_iconst (v := 1) hx hb dL_law_16 (by decide) ?_
  refine k_newa (atype := .long) (ty := .long) (t0 := 4) (N' := 1) (a0 := (1, .inr (.inl (fun _ => 0)))) 18 0 Z X (inU_1 _ (List.mem_of_getElem? (i := 6) rfl)) rfl rfl (fun h => h) rfl (by decide) rfl (by decide) (Nat.le_of_ble_eq_true rfl) (Nat.le_of_ble_eq_true rfl) dL_law_17 (fun z H X => ?_)
  obtain ⟨adF, hadF⟩ : ∃ y, y = aup adD 18 0 z := ⟨_, rfl⟩
  obtain ⟨ctF, hctF⟩ : ∃ y, y = cup ctD 18 0 (.inl (G.2.2.2.2.2.1, 1, .inr (.inl (fun _ => 0)))) := ⟨_, rfl⟩
  rw [← hadF, ← hctF] at X
  have eN : adF 18 0 = z := by rw [hadF]; exact aup_s
  have j0 : adF 0 0 = adD 0 0 := by rw [hadF]; exact aup_n (by simp)
  have j16 : adF 16 0 = adD 16 0 := by rw [hadF]; exact aup_n (by simp)
  rw [← j0, ← j16] at hl
  rw [← eN]
  refine lv_astore_n (lv' := [(3, .ref (adF 18 0)), (2, .ref (adF 16 0)), (1, .ref (adF 0 0)), (0, .ref b)]) hx hb dL_law_19 rfl hl (by decide) rfl (fun ls hl => ?_)
  refine lv_iconst (v := 0) hx hb dL_law_20 (by decide) ?_
  refine lv_istore (lv' := [(4, .int 0), (3, .ref (adF 18 0)), (2, .ref (adF 16 0)), (1, .ref (adF 0 0)), (0, .ref b)]) hx hb dL_law_21 hl (by decide) rfl (fun ls hl => ?_)
  have X : kX s G s H _ adF (cto G (kS0 cap) kT0 0 adF) := X.drop (fun k i e h => ⟨start_ct hw hadC hctC hmk hadF hctF k i e h, rfl⟩)
  refine W.widen (k := 48 + 20 * 0) (n := 5360 + 400 * 0) (Nat.le_of_ble_eq_true rfl) (Nat.le_of_ble_eq_true rfl) ?_
  exact law_loop hE Z hX hbl hL hr hlocks (L + 1) 0 _ _ _ _ _ _ _ (by omega) (by omega) (tie_0 hcap) X (lv_sub hl [0, 4, 3, 2, 1] rfl)
