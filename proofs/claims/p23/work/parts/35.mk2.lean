/-! THE CLASS: its constructor -/
def mk7 (G : kG) (i a0 z10 : Nat) (ad : kAd) (ct : kCt) : Prop := ad 0 0 = a0 ∧ ad 1 0 = z10 ∧ ct 0 0 = some (.inr (10, [.ref z10, .null, .null, .null, .null, .null, .null, .int 0])) ∧ (∃ cap dq : Nat, ct 1 0 = some (.inr (2, [.int (nI i), .ref dq, .int (nI i)])) ∧ ((i = 0 ∧ dq = G.2.2.2.2.2.2) ∨ (dq = ad 2 0 ∧ 10 ≤ cap ∧ i ≤ cap ∧ cap ≤ 120 ∧ ct 2 0 = some (kOa G cap (fun j => if j < i then some (ad 3 j) else none))))) ∧ (∀ j, j < i → ct 3 j = some (.inr (3, [.int (nI j), .int 0, .int 0]))) ∧ ct 98 0 = none
theorem mk7_f {n : Nat} {g h : Nat → Nat} (e : ∀ j, j < n → g j = h j) : (fun j => if j < n then some (g j) else none) = (fun j => if j < n then some (h j) else none) := by
  funext j
  by_cases hj : j < n
  · rw [if_pos hj, if_pos hj, e j hj]
  · rw [if_neg hj, if_neg hj]
theorem mk7.nw {G : kG} {i a0 z10 : Nat} {ad : kAd} {ct : kCt} (h : mk7 G i a0 z10 ad ct) (z : Nat) (e : va_E) : mk7 G i a0 z10 (aup ad 3 i z) (cup ct 3 i e) := by
  obtain ⟨h1, h2, h3, ⟨cap, dq, h4, h5⟩, h6, h7⟩ := h
  refine ⟨(aup_n (by simp)).trans h1, (aup_n (by simp)).trans h2, (cup_n (by simp)).trans h3, ⟨cap, dq, (cup_n (by simp)).trans h4, ?_⟩, fun j hj => (cup_n (by omega)).trans (h6 j hj), (cup_n (by simp)).trans h7⟩
  rcases h5 with h5 | ⟨q1, q2, q3, q4, q5⟩
  · exact Or.inl h5
  · refine Or.inr ⟨q1.trans (aup_n (by simp)).symm, q2, q3, q4, ((cup_n (by simp)).trans q5).trans ?_⟩
    rw [mk7_f (g := fun j => aup ad 3 i z 3 j) (h := fun j => ad 3 j) (fun j hj => aup_n (by omega))]
theorem mk7.cw {G : kG} {i a0 z10 : Nat} {ad : kAd} {ct : kCt} (h : mk7 G i a0 z10 ad ct) (e : va_E) : mk7 G i a0 z10 ad (cup ct 3 i e) := by
  have := h.nw (ad 3 i) e
  rwa [aup_id] at this
theorem mk7.ad {G : kG} {i a0 z10 cap dq cap1 z : Nat} {ad : kAd} {ct : kCt} (h : mk7 G i a0 z10 ad ct) (hc3 : ct 3 i = some (.inr (3, [.int (nI i), .int 0, .int 0]))) (k1 : i < cap1) (k2 : 10 ≤ cap1) (k3 : cap1 ≤ 120) : mk7 G (i + 1) a0 z10 (aup ad 2 0 z) (cup (cup ct 2 0 (kOa G cap1 (kUp (fun j => if j < i then some (ad 3 j) else none) i (ad 3 i)))) 1 0 (.inr (2, [.int (nI i + 1), .ref z, .int (nI (i + 1))]))) := by
  obtain ⟨h1, h2, h3, -, h6, h7⟩ := h
  refine ⟨(aup_n (by simp)).trans h1, (aup_n (by simp)).trans h2, (cup_n (by simp)).trans ((cup_n (by simp)).trans h3), ⟨cap1, z, by rw [cup_s, nI_1], Or.inr ⟨aup_s.symm, k2, by omega, k3, (cup_n (by simp)).trans (cup_s.trans ?_)⟩⟩, fun j hj => (cup_n (by simp)).trans ((cup_n (by simp)).trans ?_), (cup_n (by simp)).trans ((cup_n (by simp)).trans h7)⟩
  · congr 4
    have : kUp (fun j => if j < i then some (ad 3 j) else none) i (ad 3 i) = (fun j => if j < i + 1 then some (aup ad 2 0 z 3 j) else none) := by
      funext j
      simp only [kUp]
      rw [aup_n (by simp)]
      by_cases c1 : j < i
      · rw [if_pos c1, if_pos c1, if_pos (by omega)]
      · rw [if_neg c1]
        by_cases c2 : j = i
        · rw [if_pos c2, if_pos (by omega), c2]
        · rw [if_neg c2, if_neg (by omega)]
    rw [this]
  · by_cases c2 : j = i
    · rw [c2]; exact hc3
    · exact h6 j (by omega)
def kS0 (cap : Nat) : kSt := (fun f j => if f = 19 then (if j = 0 then 6 else 0) else if f = 18 then (if j < 12 then -1 else 0) else 0, fun f j => if f = 6 ∧ j = 0 then cap else 0)
def p7 (G : kG) (T : kSt) (o : Int64) (ad : kAd) (ad1 : kAd) (ct1 : kCt) : Prop := ad1 0 0 = ad 0 0 ∧ ∃ cap : Nat, capok 5 cap ∧ ∀ k i e, k < 16 → cto G (kS0 cap) T o ad1 k i = some e → ct1 k i = some e
theorem dX7_init_0 : decode cX7_init 0 = .ok (.aload_n 0, 1) := by decide +kernel
theorem dX7_init_1 : decode cX7_init 1 = .ok (.invokespecial 1, 3) := by decide +kernel
theorem dX7_init_4 : decode cX7_init 4 = .ok (.aload_n 0, 1) := by decide +kernel
theorem dX7_init_5 : decode cX7_init 5 = .ok (.new 7, 3) := by decide +kernel
theorem dX7_init_8 : decode cX7_init 8 = .ok (.dup, 1) := by decide +kernel
theorem dX7_init_9 : decode cX7_init 9 = .ok (.invokespecial 9, 3) := by decide +kernel
theorem dX7_init_12 : decode cX7_init 12 = .ok (.putfield 10, 3) := by decide +kernel
theorem dX7_init_15 : decode cX7_init 15 = .ok (.iconst 0, 1) := by decide +kernel
theorem dX7_init_16 : decode cX7_init 16 = .ok (.istore_n 1, 1) := by decide +kernel
theorem dX7_init_17 : decode cX7_init 17 = .ok (.iload_n 1, 1) := by decide +kernel
theorem dX7_init_18 : decode cX7_init 18 = .ok (.bipush 6, 2) := by decide +kernel
theorem dX7_init_20 : decode cX7_init 20 = .ok (.if_icmp .ge 25, 3) := by decide +kernel
theorem dX7_init_23 : decode cX7_init 23 = .ok (.aload_n 0, 1) := by decide +kernel
theorem dX7_init_24 : decode cX7_init 24 = .ok (.getfield 10, 3) := by decide +kernel
theorem dX7_init_27 : decode cX7_init 27 = .ok (.new 16, 3) := by decide +kernel
theorem dX7_init_30 : decode cX7_init 30 = .ok (.dup, 1) := by decide +kernel
theorem dX7_init_31 : decode cX7_init 31 = .ok (.iload_n 1, 1) := by decide +kernel
theorem dX7_init_32 : decode cX7_init 32 = .ok (.invokespecial 18, 3) := by decide +kernel
theorem dX7_init_35 : decode cX7_init 35 = .ok (.invokevirtual 21, 3) := by decide +kernel
theorem dX7_init_38 : decode cX7_init 38 = .ok (.pop, 1) := by decide +kernel
theorem dX7_init_39 : decode cX7_init 39 = .ok (.iinc 1 1, 3) := by decide +kernel
theorem dX7_init_42 : decode cX7_init 42 = .ok (.goto (-25), 3) := by decide +kernel
theorem dX7_init_45 : decode cX7_init 45 = .ok (.aload_n 0, 1) := by decide +kernel
theorem dX7_init_46 : decode cX7_init 46 = .ok (.new 7, 3) := by decide +kernel
theorem dX7_init_49 : decode cX7_init 49 = .ok (.dup, 1) := by decide +kernel
theorem dX7_init_50 : decode cX7_init 50 = .ok (.invokespecial 9, 3) := by decide +kernel
theorem dX7_init_53 : decode cX7_init 53 = .ok (.putfield 25, 3) := by decide +kernel
theorem dX7_init_56 : decode cX7_init 56 = .ok (.aload_n 0, 1) := by decide +kernel
theorem dX7_init_57 : decode cX7_init 57 = .ok (.new 7, 3) := by decide +kernel
theorem dX7_init_60 : decode cX7_init 60 = .ok (.dup, 1) := by decide +kernel
theorem dX7_init_61 : decode cX7_init 61 = .ok (.invokespecial 9, 3) := by decide +kernel
theorem dX7_init_64 : decode cX7_init 64 = .ok (.putfield 28, 3) := by decide +kernel
theorem dX7_init_67 : decode cX7_init 67 = .ok (.aload_n 0, 1) := by decide +kernel
theorem dX7_init_68 : decode cX7_init 68 = .ok (.new 7, 3) := by decide +kernel
theorem dX7_init_71 : decode cX7_init 71 = .ok (.dup, 1) := by decide +kernel
theorem dX7_init_72 : decode cX7_init 72 = .ok (.invokespecial 9, 3) := by decide +kernel
theorem dX7_init_75 : decode cX7_init 75 = .ok (.putfield 31, 3) := by decide +kernel
theorem dX7_init_78 : decode cX7_init 78 = .ok (.aload_n 0, 1) := by decide +kernel
theorem dX7_init_79 : decode cX7_init 79 = .ok (.new 7, 3) := by decide +kernel
theorem dX7_init_82 : decode cX7_init 82 = .ok (.dup, 1) := by decide +kernel
theorem dX7_init_83 : decode cX7_init 83 = .ok (.invokespecial 9, 3) := by decide +kernel
theorem dX7_init_86 : decode cX7_init 86 = .ok (.putfield 34, 3) := by decide +kernel
theorem dX7_init_89 : decode cX7_init 89 = .ok (.aload_n 0, 1) := by decide +kernel
theorem dX7_init_90 : decode cX7_init 90 = .ok (.new 37, 3) := by decide +kernel
theorem dX7_init_93 : decode cX7_init 93 = .ok (.dup, 1) := by decide +kernel
theorem dX7_init_94 : decode cX7_init 94 = .ok (.invokespecial 39, 3) := by decide +kernel
theorem dX7_init_97 : decode cX7_init 97 = .ok (.putfield 40, 3) := by decide +kernel
theorem dX7_init_100 : decode cX7_init 100 = .ok (.aload_n 0, 1) := by decide +kernel
theorem dX7_init_101 : decode cX7_init 101 = .ok (.new 44, 3) := by decide +kernel
theorem dX7_init_104 : decode cX7_init 104 = .ok (.dup, 1) := by decide +kernel
theorem dX7_init_105 : decode cX7_init 105 = .ok (.invokespecial 46, 3) := by decide +kernel
theorem dX7_init_108 : decode cX7_init 108 = .ok (.putfield 47, 3) := by decide +kernel
theorem dX7_init_111 : decode cX7_init 111 = .ok (.aload_n 0, 1) := by decide +kernel
theorem dX7_init_112 : decode cX7_init 112 = .ok (.iconst 0, 1) := by decide +kernel
theorem dX7_init_113 : decode cX7_init 113 = .ok (.putfield 51, 3) := by decide +kernel
theorem dX7_init_116 : decode cX7_init 116 = .ok (.return_, 1) := by decide +kernel
set_option maxHeartbeats 4000000 in
set_option maxRecDepth 100000 in
theorem c_X7_init (l : Launch) (E : State) (G : kG) (ad : kAd) (ct : kCt) (T : kSt) (o : Int64) (hE : kE l E G) (hc : ct 0 0 = some (.inr (10, [.null, .null, .null, .null, .null, .null, .null, .int 0]))) (h98 : ct 98 0 = none) : Met l yX7_init (.code yX7_init cX7_init 2 none :: wsL_law) ({ frames := 12, cells := 23, slots := 2306, locals := 400 } : Room) (va_Pc [.ref (ad 0 0)] (kPre E G ad ct)) (kQv E G (fun ad1 ct1 => p7 G T o ad ad1 ct1)) 23 2306 (kB E.heap.size) := by
  refine Met.ofW (cc := cX7_init) (maxL := 2) (ret := none) (by decide) rfl ?_
  intro p e s m args below meth c s₁ B hml hv
  obtain ⟨rfl, hM, hK, hW0⟩ := hv
  have hlocks := B.notSynchronized
  have hr := B.returns
  have hin : meth.name = "<init>" := (name_of_methodNamed B.named B.method).1
  have Z : kZ p m c cX7_init 2 s _ wsL_law RX7 E G := ⟨⟨B.exec, B.bytes, hml, findClass_of_methodNamed B.named, fun w h => atoms_spec (ws := .code yX7_init cX7_init 2 none :: wsL_law) B.pre w (List.mem_cons_of_mem _ h)⟩, hM, hK⟩
  have hx := Z.1.1
  have hb := Z.1.2.1
  have X := kX.of hW0
  have hl := lv_entry ([.ref (ad 0 0)]) (n := 2) (Nat.le_of_ble_eq_true rfl)
  rw [lg_entry_eq]
  generalize (lg_sl ([.ref (ad 0 0)]) ++ List.replicate (2 - (lg_sl ([.ref (ad 0 0)])).length) Slot.unset).toArray = ls at hl ⊢
  have hl : lv_has ls 2 [(0, .ref (ad 0 0))] := hl
  refine lv_aload_n hx hb dX7_init_0 rfl (lv_at hl 0 rfl) ?_
  refine k_objInit Z (inU_1 _ (List.mem_of_getElem? (i := 12) rfl)) (inU_1 _ (List.mem_of_getElem? (i := 13) rfl)) (inU_1 _ (List.mem_of_getElem? (i := 14) rfl)) hl.1 (Nat.le_of_ble_eq_true rfl) ⟨(Nat.le_of_ble_eq_true rfl), (Nat.le_of_ble_eq_true rfl)⟩ dX7_init_1 ?_
  have a00 : ad 0 0 = ad 0 0 := rfl
  have c_0_0 := hc
  have F98 := h98
  refine lv_aload_n hx hb dX7_init_4 rfl (lv_at hl 0 rfl) ?_
  refine k_new (fs := [.int 0, .null, .int 0]) (ci := 2) (ty0 := tyJx4a65c) 1 0 Z X inlJx4a65c tyJx4a65c_ok rfl (inU_1 _ (List.mem_of_getElem? (i := 15) rfl)) (inU_1 _ (List.mem_of_getElem? (i := 16) rfl)) (inU_1 _ (List.mem_of_getElem? (i := 17) rfl)) (fun j hj => by match j, hj with | 0, _ => rfl | 1, _ => rfl | 2, _ => rfl) (Nat.le_of_ble_eq_true rfl) (Nat.le_of_ble_eq_true rfl) dX7_init_5 (fun z H X => ?_)
  obtain ⟨wa1, hA⟩ : ∃ y, y = aup ad 1 0 z := ⟨_, rfl⟩
  obtain ⟨wc1, hC⟩ : ∃ y, y = cup ct 1 0 (.inr (2, [.int 0, .null, .int 0])) := ⟨_, rfl⟩
  rw [← hA, ← hC] at X
  have eN : wa1 1 0 = z := by rw [hA]; exact aup_s
  subst eN
  have eX : ∀ k i, ¬ (k = 1 ∧ i = 0) → wa1 k i = ad k i := fun k i h => by rw [hA]; exact aup_n h
  have cN : wc1 1 0 = some (.inr (2, [.int 0, .null, .int 0])) := by rw [hC]; exact cup_s
  have cX : ∀ k i, ¬ (k = 1 ∧ i = 0) → wc1 k i = ct k i := fun k i h => by rw [hC]; exact cup_n h
  have c_0_0 : wc1 0 0 = some (.inr (10, [.null, .null, .null, .null, .null, .null, .null, .int 0])) := (cX _ _ (by simp)).trans c_0_0
  have F98 : wc1 98 0 = none := (cX _ _ (by simp)).trans F98
  have a00 : wa1 0 0 = ad 0 0 := (eX _ _ (by simp)).trans a00
  clear hA hC eX cX
  refine lv_dup hx hb dX7_init_8 rfl ?_
  refine k_Rv X (k_runI (As := []) (rest := [.ref (wa1 1 0), .ref (ad 0 0)]) Z X (c_Jx4a65c_init_da8c8 l E G wa1 wc1 0 _ _ _ hE cN) (k_cwI 0 Z.1.2.2.2.2 (inU_2 _ (List.mem_of_getElem? (i := 11) rfl)) (inU_2 _ (List.mem_of_getElem? (i := 12) rfl)) (inU_1 _ (List.mem_of_getElem? (i := 17) rfl)) (inU_2 _ (List.mem_of_getElem? (i := 13) rfl)) rfl rfl rfl (by decide +kernel) ⟨Nat.le_of_ble_eq_true rfl, Nat.le_of_ble_eq_true rfl⟩) rfl hl.1 rfl (Nat.le_of_ble_eq_true rfl) dX7_init_9 ⟨(by first | exact Nat.le_of_ble_eq_true rfl | (show _ ≤ (_ : Nat); simp only [headSpec]; omega)), (by first | exact Nat.le_of_ble_eq_true rfl | (show _ ≤ (_ : Nat); simp only [headSpec]; omega))⟩) (fun ad1 ct1 H locs hp X => ?_)
  obtain ⟨ha_, hb_⟩ := hp
  rw [← ha_, hb_] at X
  obtain ⟨wc1i, hC⟩ : ∃ y, y = cup wc1 1 0 (.inr (2, [.int 0, .ref G.2.2.2.2.2.2, .int 0])) := ⟨_, rfl⟩
  rw [← hC] at X
  have cX : ∀ k i, ¬ (k = 1 ∧ i = 0) → wc1i k i = wc1 k i := fun k i h => by rw [hC]; exact cup_n h
  have c_1_0 : wc1i 1 0 = some (.inr (2, [.int 0, .ref G.2.2.2.2.2.2, .int 0])) := by rw [hC]; exact cup_s
  have c_0_0 : wc1i 0 0 = some (.inr (10, [.null, .null, .null, .null, .null, .null, .null, .int 0])) := (cX _ _ (by simp)).trans c_0_0
  have F98 : wc1i 98 0 = none := (cX _ _ (by simp)).trans F98
  have a00 : wa1 0 0 = ad 0 0 := a00
  clear hC cX cN
  refine W.eq (congrArg (fun y => F0 m 12 ls [.ref (wa1 1 0), .ref y]) a00.symm) ?_
  refine k_putF (index := 10) (j := 0) (k := 0) (i := 0) Z X c_0_0 inlX7 tyX7_ok nmX7 rfl (by decide) (inU_1 _ (List.mem_of_getElem? (i := 18) rfl)) rfl hin rfl (Nat.le_of_ble_eq_true rfl) rfl rfl dX7_init_12 (fun H locs X => ?_)
  obtain ⟨wc1p, hC⟩ : ∃ y, y = cup wc1i 0 0 (.inr (10, [.ref (wa1 1 0), .null, .null, .null, .null, .null, .null, .int 0])) := ⟨_, rfl⟩
  have X : kX E G s H locs wa1 wc1p := by rw [hC]; exact X
  have cX : ∀ k i, ¬ (k = 0 ∧ i = 0) → wc1p k i = wc1i k i := fun k i h => by rw [hC]; exact cup_n h
  have c_0_0 : wc1p 0 0 = some (.inr (10, [.ref (wa1 1 0), .null, .null, .null, .null, .null, .null, .int 0])) := by rw [hC]; exact cup_s
  have F98 : wc1p 98 0 = none := (cX _ _ (by simp)).trans F98
  have c_1_0 : wc1p 1 0 = some (.inr (2, [.int 0, .ref G.2.2.2.2.2.2, .int 0])) := (cX _ _ (by simp)).trans c_1_0
  have a00 : wa1 0 0 = ad 0 0 := a00
  clear hC cX
  refine lv_iconst (v := 0) hx hb dX7_init_15 (by decide) ?_
  refine lv_topi (fun x_15 e_15 => ?_)
  obtain rfl : x_15 = nI 0 := e_15.trans (rfl)
  refine lv_istore_n (lv' := [(1, .int (nI 0)), (0, .ref (ad 0 0))]) hx hb dX7_init_16 rfl hl (by decide) rfl (fun ls hl => ?_)
  have h : mk7 G 0 (ad 0 0) (wa1 1 0) wa1 wc1p := ⟨a00, rfl, c_0_0, ⟨0, G.2.2.2.2.2.2, c_1_0, Or.inl ⟨rfl, rfl⟩⟩, fun j hj => absurd hj (by omega), F98⟩
  obtain ⟨z10, hz10⟩ : ∃ y, y = wa1 1 0 := ⟨_, rfl⟩
  rw [← hz10] at h
  clear c_0_0 c_1_0 F98 a00 hz10
  refine lv_iload_n hx hb dX7_init_17 rfl (lv_at hl 0 rfl) ?_
  refine lv_bipush (v := 6) hx hb dX7_init_18 (by decide) ?_
  refine lv_icmp_ge (tgt := 45) hx hb dX7_init_20 (by decide) (fun c_20 => ?_) (fun c_20 => ?_)
  · exact absurd c_20 (by decide)
  · refine lv_aload_n hx hb dX7_init_23 rfl (lv_at hl 1 rfl) ?_
    refine W.eq (congrArg (fun y => F0 m 24 ls [.ref y]) h.1.symm) ?_
    refine k_get (index := 10) (j := 0) (ad := wa1) (k := 0) (i := 0) Z X h.2.2.1 inlX7 rfl (by decide) (inU_1 _ (List.mem_of_getElem? (i := 18) rfl)) (fun _ h => h) (v := .ref z10) rfl dX7_init_24 ?_
    refine k_new (fs := [.int 0, .int 0, .int 0]) (ci := 3) (ty0 := tyX0) 3 0 Z X inlX0 tyX0_ok rfl (inU_1 _ (List.mem_of_getElem? (i := 19) rfl)) (inU_1 _ (List.mem_of_getElem? (i := 20) rfl)) (inU_1 _ (List.mem_of_getElem? (i := 21) rfl)) (fun j hj => by match j, hj with | 0, _ => rfl | 1, _ => rfl | 2, _ => rfl) (Nat.le_of_ble_eq_true rfl) (Nat.le_of_ble_eq_true rfl) dX7_init_27 (fun z H X => ?_)
    have h := h.nw z (.inr (3, [.int 0, .int 0, .int 0]))
    obtain ⟨wa2, hA⟩ : ∃ y, y = aup wa1 3 0 z := ⟨_, rfl⟩
    obtain ⟨wc2, hC⟩ : ∃ y, y = cup wc1p 3 0 (.inr (3, [.int 0, .int 0, .int 0])) := ⟨_, rfl⟩
    rw [← hA, ← hC] at X h
    have eN : wa2 3 0 = z := by rw [hA]; exact aup_s
    subst eN
    have cN : wc2 3 0 = some (.inr (3, [.int 0, .int 0, .int 0])) := by rw [hC]; exact cup_s
    clear hA hC
    refine lv_dup hx hb dX7_init_30 rfl ?_
    refine lv_iload_n hx hb dX7_init_31 rfl (lv_at hl 0 rfl) ?_
    refine k_Rv X (k_runI (As := [.int (nI 0)]) (rest := [.ref (wa2 3 0), .ref z10]) Z X (c_X0_init l E G wa2 wc2 0 0 cN) (k_cwI 1 Z.1.2.2.2.2 (inU_3 _ (List.mem_of_getElem? (i := 2) rfl)) (inU_3 _ (List.mem_of_getElem? (i := 3) rfl)) (inU_1 _ (List.mem_of_getElem? (i := 21) rfl)) (inU_3 _ (List.mem_of_getElem? (i := 4) rfl)) rfl rfl rfl (by decide +kernel) ⟨Nat.le_of_ble_eq_true rfl, Nat.le_of_ble_eq_true rfl⟩) rfl hl.1 rfl (Nat.le_of_ble_eq_true rfl) dX7_init_32 ⟨(by first | exact Nat.le_of_ble_eq_true rfl | (show _ ≤ (_ : Nat); simp only [headSpec]; omega)), (by first | exact Nat.le_of_ble_eq_true rfl | (show _ ≤ (_ : Nat); simp only [headSpec]; omega))⟩) (fun ad1 ct1 H locs hp X => ?_)
    obtain ⟨ha_, hb_⟩ := hp
    rw [← ha_, hb_] at X
    have h := h.cw (.inr (3, [.int (nI 0), .int 0, .int 0]))
    obtain ⟨wc2i, hC⟩ : ∃ y, y = cup wc2 3 0 (.inr (3, [.int (nI 0), .int 0, .int 0])) := ⟨_, rfl⟩
    rw [← hC] at X h
    have cN : wc2i 3 0 = some (.inr (3, [.int (nI 0), .int 0, .int 0])) := by rw [hC]; exact cup_s
    clear hC
    refine W.eq (congrArg (fun y => F0 m 35 ls [.ref (wa2 3 0), .ref y]) h.2.1.symm) ?_
    obtain ⟨cap, dq, hd1, hd2⟩ := h.2.2.2.1
    refine k_Ri X (k_runV (As := [.ref (wa2 3 0)]) (rest := []) Z X (c_Jx4a65c_add_9ea2d l E G wa2 wc2i hE 0 0 3 3 (fun j => if j < 0 then some (wa2 3 j) else none) (RX0, TX0, 3) (nI 0) dq 0 _ rfl (List.mem_of_getElem? (i := 7) rfl) hd1 cN (by decide) ⟨by decide, by decide, by decide⟩ (kEl_of (fun j hj => ⟨_, h.2.2.2.2.1 j hj⟩)) h.2.2.2.2.2 cap hd2 (fun j h => if_neg (by omega))) (k_cwV 1 Z.1.2.2.2.2 (inU_3 _ (List.mem_of_getElem? (i := 7) rfl)) (inU_3 _ (List.mem_of_getElem? (i := 8) rfl)) (inU_3 _ (List.mem_of_getElem? (i := 9) rfl)) (inU_1 _ (List.mem_of_getElem? (i := 17) rfl)) (inU_3 _ (List.mem_of_getElem? (i := 10) rfl)) rfl rfl (by decide +kernel) ⟨Nat.le_of_ble_eq_true rfl, Nat.le_of_ble_eq_true rfl⟩) (k_recv Z X hd1 rfl) rfl hl.1 rfl (Nat.le_of_ble_eq_true rfl) dX7_init_35 ⟨(by first | exact Nat.le_of_ble_eq_true rfl | (show _ ≤ (_ : Nat); simp only [headSpec]; omega)), (by first | exact Nat.le_of_ble_eq_true rfl | (show _ ≤ (_ : Nat); simp only [headSpec]; omega))⟩) (fun r_35 ad1 ct1 H locs hp X => ?_)
    obtain ⟨rfl, z, cap1, k1, k2, k3, hp1, hp2⟩ := hp
    have h := h.ad (cap := cap) (dq := dq) (z := z) cN k1 k2 k3
    rw [hp1, hp2] at X
    obtain ⟨wa3, wc3, h, X⟩ : ∃ y1 y2, mk7 G 1 (ad 0 0) z10 y1 y2 ∧ kX E G s H locs y1 y2 := ⟨_, _, h, X⟩
    clear hd1 hd2 cN
    refine lv_pop hx hb dX7_init_38 rfl ?_
    refine lv_iinc (v := (nI 1)) (lv' := [(1, .int (nI 1)), (0, .ref (ad 0 0))]) hx hb dX7_init_39 hl (k := 0) rfl (nI_1 _) (by decide) rfl (fun ls hl => ?_)
    refine lv_goto (tgt := 17) hx hb dX7_init_42 (by decide) ?_
    refine lv_iload_n hx hb dX7_init_17 rfl (lv_at hl 0 rfl) ?_
    refine lv_bipush (v := 6) hx hb dX7_init_18 (by decide) ?_
    refine lv_icmp_ge (tgt := 45) hx hb dX7_init_20 (by decide) (fun c_20 => ?_) (fun c_20 => ?_)
    · exact absurd c_20 (by decide)
    · refine lv_aload_n hx hb dX7_init_23 rfl (lv_at hl 1 rfl) ?_
      refine W.eq (congrArg (fun y => F0 m 24 ls [.ref y]) h.1.symm) ?_
      refine k_get (index := 10) (j := 0) (ad := wa3) (k := 0) (i := 0) Z X h.2.2.1 inlX7 rfl (by decide) (inU_1 _ (List.mem_of_getElem? (i := 18) rfl)) (fun _ h => h) (v := .ref z10) rfl dX7_init_24 ?_
      refine k_new (fs := [.int 0, .int 0, .int 0]) (ci := 3) (ty0 := tyX0) 3 1 Z X inlX0 tyX0_ok rfl (inU_1 _ (List.mem_of_getElem? (i := 19) rfl)) (inU_1 _ (List.mem_of_getElem? (i := 20) rfl)) (inU_1 _ (List.mem_of_getElem? (i := 21) rfl)) (fun j hj => by match j, hj with | 0, _ => rfl | 1, _ => rfl | 2, _ => rfl) (Nat.le_of_ble_eq_true rfl) (Nat.le_of_ble_eq_true rfl) dX7_init_27 (fun z H X => ?_)
      have h := h.nw z (.inr (3, [.int 0, .int 0, .int 0]))
      obtain ⟨wa4, hA⟩ : ∃ y, y = aup wa3 3 1 z := ⟨_, rfl⟩
      obtain ⟨wc4, hC⟩ : ∃ y, y = cup wc3 3 1 (.inr (3, [.int 0, .int 0, .int 0])) := ⟨_, rfl⟩
      rw [← hA, ← hC] at X h
      have eN : wa4 3 1 = z := by rw [hA]; exact aup_s
      subst eN
      have cN : wc4 3 1 = some (.inr (3, [.int 0, .int 0, .int 0])) := by rw [hC]; exact cup_s
      clear hA hC
      refine lv_dup hx hb dX7_init_30 rfl ?_
      refine lv_iload_n hx hb dX7_init_31 rfl (lv_at hl 0 rfl) ?_
      refine k_Rv X (k_runI (As := [.int (nI 1)]) (rest := [.ref (wa4 3 1), .ref z10]) Z X (c_X0_init l E G wa4 wc4 1 1 cN) (k_cwI 1 Z.1.2.2.2.2 (inU_3 _ (List.mem_of_getElem? (i := 2) rfl)) (inU_3 _ (List.mem_of_getElem? (i := 3) rfl)) (inU_1 _ (List.mem_of_getElem? (i := 21) rfl)) (inU_3 _ (List.mem_of_getElem? (i := 4) rfl)) rfl rfl rfl (by decide +kernel) ⟨Nat.le_of_ble_eq_true rfl, Nat.le_of_ble_eq_true rfl⟩) rfl hl.1 rfl (Nat.le_of_ble_eq_true rfl) dX7_init_32 ⟨(by first | exact Nat.le_of_ble_eq_true rfl | (show _ ≤ (_ : Nat); simp only [headSpec]; omega)), (by first | exact Nat.le_of_ble_eq_true rfl | (show _ ≤ (_ : Nat); simp only [headSpec]; omega))⟩) (fun ad1 ct1 H locs hp X => ?_)
      obtain ⟨ha_, hb_⟩ := hp
      rw [← ha_, hb_] at X
      have h := h.cw (.inr (3, [.int (nI 1), .int 0, .int 0]))
      obtain ⟨wc4i, hC⟩ : ∃ y, y = cup wc4 3 1 (.inr (3, [.int (nI 1), .int 0, .int 0])) := ⟨_, rfl⟩
      rw [← hC] at X h
      have cN : wc4i 3 1 = some (.inr (3, [.int (nI 1), .int 0, .int 0])) := by rw [hC]; exact cup_s
      clear hC
      refine W.eq (congrArg (fun y => F0 m 35 ls [.ref (wa4 3 1), .ref y]) h.2.1.symm) ?_
      obtain ⟨cap, dq, hd1, hd2⟩ := h.2.2.2.1
      refine k_Ri X (k_runV (As := [.ref (wa4 3 1)]) (rest := []) Z X (c_Jx4a65c_add_9ea2d l E G wa4 wc4i hE 0 1 3 3 (fun j => if j < 1 then some (wa4 3 j) else none) (RX0, TX0, 3) (nI 1) dq 1 _ rfl (List.mem_of_getElem? (i := 7) rfl) hd1 cN (by decide) ⟨by decide, by decide, by decide⟩ (kEl_of (fun j hj => ⟨_, h.2.2.2.2.1 j hj⟩)) h.2.2.2.2.2 cap hd2 (fun j h => if_neg (by omega))) (k_cwV 1 Z.1.2.2.2.2 (inU_3 _ (List.mem_of_getElem? (i := 7) rfl)) (inU_3 _ (List.mem_of_getElem? (i := 8) rfl)) (inU_3 _ (List.mem_of_getElem? (i := 9) rfl)) (inU_1 _ (List.mem_of_getElem? (i := 17) rfl)) (inU_3 _ (List.mem_of_getElem? (i := 10) rfl)) rfl rfl (by decide +kernel) ⟨Nat.le_of_ble_eq_true rfl, Nat.le_of_ble_eq_true rfl⟩) (k_recv Z X hd1 rfl) rfl hl.1 rfl (Nat.le_of_ble_eq_true rfl) dX7_init_35 ⟨(by first | exact Nat.le_of_ble_eq_true rfl | (show _ ≤ (_ : Nat); simp only [headSpec]; omega)), (by first | exact Nat.le_of_ble_eq_true rfl | (show _ ≤ (_ : Nat); simp only [headSpec]; omega))⟩) (fun r_35 ad1 ct1 H locs hp X => ?_)
      obtain ⟨rfl, z, cap1, k1, k2, k3, hp1, hp2⟩ := hp
      have h := h.ad (cap := cap) (dq := dq) (z := z) cN k1 k2 k3
      rw [hp1, hp2] at X
      obtain ⟨wa5, wc5, h, X⟩ : ∃ y1 y2, mk7 G 2 (ad 0 0) z10 y1 y2 ∧ kX E G s H locs y1 y2 := ⟨_, _, h, X⟩
      clear hd1 hd2 cN
      refine lv_pop hx hb dX7_init_38 rfl ?_
      refine lv_iinc (v := (nI 2)) (lv' := [(1, .int (nI 2)), (0, .ref (ad 0 0))]) hx hb dX7_init_39 hl (k := 0) rfl (nI_1 _) (by decide) rfl (fun ls hl => ?_)
      refine lv_goto (tgt := 17) hx hb dX7_init_42 (by decide) ?_
      refine lv_iload_n hx hb dX7_init_17 rfl (lv_at hl 0 rfl) ?_
      refine lv_bipush (v := 6) hx hb dX7_init_18 (by decide) ?_
      refine lv_icmp_ge (tgt := 45) hx hb dX7_init_20 (by decide) (fun c_20 => ?_) (fun c_20 => ?_)
      · exact absurd c_20 (by decide)
      · refine lv_aload_n hx hb dX7_init_23 rfl (lv_at hl 1 rfl) ?_
        refine W.eq (congrArg (fun y => F0 m 24 ls [.ref y]) h.1.symm) ?_
        refine k_get (index := 10) (j := 0) (ad := wa5) (k := 0) (i := 0) Z X h.2.2.1 inlX7 rfl (by decide) (inU_1 _ (List.mem_of_getElem? (i := 18) rfl)) (fun _ h => h) (v := .ref z10) rfl dX7_init_24 ?_
        refine k_new (fs := [.int 0, .int 0, .int 0]) (ci := 3) (ty0 := tyX0) 3 2 Z X inlX0 tyX0_ok rfl (inU_1 _ (List.mem_of_getElem? (i := 19) rfl)) (inU_1 _ (List.mem_of_getElem? (i := 20) rfl)) (inU_1 _ (List.mem_of_getElem? (i := 21) rfl)) (fun j hj => by match j, hj with | 0, _ => rfl | 1, _ => rfl | 2, _ => rfl) (Nat.le_of_ble_eq_true rfl) (Nat.le_of_ble_eq_true rfl) dX7_init_27 (fun z H X => ?_)
        have h := h.nw z (.inr (3, [.int 0, .int 0, .int 0]))
        obtain ⟨wa6, hA⟩ : ∃ y, y = aup wa5 3 2 z := ⟨_, rfl⟩
        obtain ⟨wc6, hC⟩ : ∃ y, y = cup wc5 3 2 (.inr (3, [.int 0, .int 0, .int 0])) := ⟨_, rfl⟩
        rw [← hA, ← hC] at X h
        have eN : wa6 3 2 = z := by rw [hA]; exact aup_s
        subst eN
        have cN : wc6 3 2 = some (.inr (3, [.int 0, .int 0, .int 0])) := by rw [hC]; exact cup_s
        clear hA hC
        refine lv_dup hx hb dX7_init_30 rfl ?_
        refine lv_iload_n hx hb dX7_init_31 rfl (lv_at hl 0 rfl) ?_
        refine k_Rv X (k_runI (As := [.int (nI 2)]) (rest := [.ref (wa6 3 2), .ref z10]) Z X (c_X0_init l E G wa6 wc6 2 2 cN) (k_cwI 1 Z.1.2.2.2.2 (inU_3 _ (List.mem_of_getElem? (i := 2) rfl)) (inU_3 _ (List.mem_of_getElem? (i := 3) rfl)) (inU_1 _ (List.mem_of_getElem? (i := 21) rfl)) (inU_3 _ (List.mem_of_getElem? (i := 4) rfl)) rfl rfl rfl (by decide +kernel) ⟨Nat.le_of_ble_eq_true rfl, Nat.le_of_ble_eq_true rfl⟩) rfl hl.1 rfl (Nat.le_of_ble_eq_true rfl) dX7_init_32 ⟨(by first | exact Nat.le_of_ble_eq_true rfl | (show _ ≤ (_ : Nat); simp only [headSpec]; omega)), (by first | exact Nat.le_of_ble_eq_true rfl | (show _ ≤ (_ : Nat); simp only [headSpec]; omega))⟩) (fun ad1 ct1 H locs hp X => ?_)
        obtain ⟨ha_, hb_⟩ := hp
        rw [← ha_, hb_] at X
        have h := h.cw (.inr (3, [.int (nI 2), .int 0, .int 0]))
        obtain ⟨wc6i, hC⟩ : ∃ y, y = cup wc6 3 2 (.inr (3, [.int (nI 2), .int 0, .int 0])) := ⟨_, rfl⟩
        rw [← hC] at X h
        have cN : wc6i 3 2 = some (.inr (3, [.int (nI 2), .int 0, .int 0])) := by rw [hC]; exact cup_s
        clear hC
        refine W.eq (congrArg (fun y => F0 m 35 ls [.ref (wa6 3 2), .ref y]) h.2.1.symm) ?_
        obtain ⟨cap, dq, hd1, hd2⟩ := h.2.2.2.1
        refine k_Ri X (k_runV (As := [.ref (wa6 3 2)]) (rest := []) Z X (c_Jx4a65c_add_9ea2d l E G wa6 wc6i hE 0 2 3 3 (fun j => if j < 2 then some (wa6 3 j) else none) (RX0, TX0, 3) (nI 2) dq 2 _ rfl (List.mem_of_getElem? (i := 7) rfl) hd1 cN (by decide) ⟨by decide, by decide, by decide⟩ (kEl_of (fun j hj => ⟨_, h.2.2.2.2.1 j hj⟩)) h.2.2.2.2.2 cap hd2 (fun j h => if_neg (by omega))) (k_cwV 1 Z.1.2.2.2.2 (inU_3 _ (List.mem_of_getElem? (i := 7) rfl)) (inU_3 _ (List.mem_of_getElem? (i := 8) rfl)) (inU_3 _ (List.mem_of_getElem? (i := 9) rfl)) (inU_1 _ (List.mem_of_getElem? (i := 17) rfl)) (inU_3 _ (List.mem_of_getElem? (i := 10) rfl)) rfl rfl (by decide +kernel) ⟨Nat.le_of_ble_eq_true rfl, Nat.le_of_ble_eq_true rfl⟩) (k_recv Z X hd1 rfl) rfl hl.1 rfl (Nat.le_of_ble_eq_true rfl) dX7_init_35 ⟨(by first | exact Nat.le_of_ble_eq_true rfl | (show _ ≤ (_ : Nat); simp only [headSpec]; omega)), (by first | exact Nat.le_of_ble_eq_true rfl | (show _ ≤ (_ : Nat); simp only [headSpec]; omega))⟩) (fun r_35 ad1 ct1 H locs hp X => ?_)
        obtain ⟨rfl, z, cap1, k1, k2, k3, hp1, hp2⟩ := hp
        have h := h.ad (cap := cap) (dq := dq) (z := z) cN k1 k2 k3
        rw [hp1, hp2] at X
        obtain ⟨wa7, wc7, h, X⟩ : ∃ y1 y2, mk7 G 3 (ad 0 0) z10 y1 y2 ∧ kX E G s H locs y1 y2 := ⟨_, _, h, X⟩
        clear hd1 hd2 cN
        refine lv_pop hx hb dX7_init_38 rfl ?_
        refine lv_iinc (v := (nI 3)) (lv' := [(1, .int (nI 3)), (0, .ref (ad 0 0))]) hx hb dX7_init_39 hl (k := 0) rfl (nI_1 _) (by decide) rfl (fun ls hl => ?_)
        refine lv_goto (tgt := 17) hx hb dX7_init_42 (by decide) ?_
        refine lv_iload_n hx hb dX7_init_17 rfl (lv_at hl 0 rfl) ?_
        refine lv_bipush (v := 6) hx hb dX7_init_18 (by decide) ?_
        refine lv_icmp_ge (tgt := 45) hx hb dX7_init_20 (by decide) (fun c_20 => ?_) (fun c_20 => ?_)
        · exact absurd c_20 (by decide)
        · refine lv_aload_n hx hb dX7_init_23 rfl (lv_at hl 1 rfl) ?_
          refine W.eq (congrArg (fun y => F0 m 24 ls [.ref y]) h.1.symm) ?_
          refine k_get (index := 10) (j := 0) (ad := wa7) (k := 0) (i := 0) Z X h.2.2.1 inlX7 rfl (by decide) (inU_1 _ (List.mem_of_getElem? (i := 18) rfl)) (fun _ h => h) (v := .ref z10) rfl dX7_init_24 ?_
          refine k_new (fs := [.int 0, .int 0, .int 0]) (ci := 3) (ty0 := tyX0) 3 3 Z X inlX0 tyX0_ok rfl (inU_1 _ (List.mem_of_getElem? (i := 19) rfl)) (inU_1 _ (List.mem_of_getElem? (i := 20) rfl)) (inU_1 _ (List.mem_of_getElem? (i := 21) rfl)) (fun j hj => by match j, hj with | 0, _ => rfl | 1, _ => rfl | 2, _ => rfl) (Nat.le_of_ble_eq_true rfl) (Nat.le_of_ble_eq_true rfl) dX7_init_27 (fun z H X => ?_)
          have h := h.nw z (.inr (3, [.int 0, .int 0, .int 0]))
          obtain ⟨wa8, hA⟩ : ∃ y, y = aup wa7 3 3 z := ⟨_, rfl⟩
          obtain ⟨wc8, hC⟩ : ∃ y, y = cup wc7 3 3 (.inr (3, [.int 0, .int 0, .int 0])) := ⟨_, rfl⟩
          rw [← hA, ← hC] at X h
          have eN : wa8 3 3 = z := by rw [hA]; exact aup_s
          subst eN
          have cN : wc8 3 3 = some (.inr (3, [.int 0, .int 0, .int 0])) := by rw [hC]; exact cup_s
          clear hA hC
          refine lv_dup hx hb dX7_init_30 rfl ?_
          refine lv_iload_n hx hb dX7_init_31 rfl (lv_at hl 0 rfl) ?_
          refine k_Rv X (k_runI (As := [.int (nI 3)]) (rest := [.ref (wa8 3 3), .ref z10]) Z X (c_X0_init l E G wa8 wc8 3 3 cN) (k_cwI 1 Z.1.2.2.2.2 (inU_3 _ (List.mem_of_getElem? (i := 2) rfl)) (inU_3 _ (List.mem_of_getElem? (i := 3) rfl)) (inU_1 _ (List.mem_of_getElem? (i := 21) rfl)) (inU_3 _ (List.mem_of_getElem? (i := 4) rfl)) rfl rfl rfl (by decide +kernel) ⟨Nat.le_of_ble_eq_true rfl, Nat.le_of_ble_eq_true rfl⟩) rfl hl.1 rfl (Nat.le_of_ble_eq_true rfl) dX7_init_32 ⟨(by first | exact Nat.le_of_ble_eq_true rfl | (show _ ≤ (_ : Nat); simp only [headSpec]; omega)), (by first | exact Nat.le_of_ble_eq_true rfl | (show _ ≤ (_ : Nat); simp only [headSpec]; omega))⟩) (fun ad1 ct1 H locs hp X => ?_)
          obtain ⟨ha_, hb_⟩ := hp
          rw [← ha_, hb_] at X
          have h := h.cw (.inr (3, [.int (nI 3), .int 0, .int 0]))
          obtain ⟨wc8i, hC⟩ : ∃ y, y = cup wc8 3 3 (.inr (3, [.int (nI 3), .int 0, .int 0])) := ⟨_, rfl⟩
          rw [← hC] at X h
          have cN : wc8i 3 3 = some (.inr (3, [.int (nI 3), .int 0, .int 0])) := by rw [hC]; exact cup_s
          clear hC
          refine W.eq (congrArg (fun y => F0 m 35 ls [.ref (wa8 3 3), .ref y]) h.2.1.symm) ?_
          obtain ⟨cap, dq, hd1, hd2⟩ := h.2.2.2.1
          refine k_Ri X (k_runV (As := [.ref (wa8 3 3)]) (rest := []) Z X (c_Jx4a65c_add_9ea2d l E G wa8 wc8i hE 0 3 3 3 (fun j => if j < 3 then some (wa8 3 j) else none) (RX0, TX0, 3) (nI 3) dq 3 _ rfl (List.mem_of_getElem? (i := 7) rfl) hd1 cN (by decide) ⟨by decide, by decide, by decide⟩ (kEl_of (fun j hj => ⟨_, h.2.2.2.2.1 j hj⟩)) h.2.2.2.2.2 cap hd2 (fun j h => if_neg (by omega))) (k_cwV 1 Z.1.2.2.2.2 (inU_3 _ (List.mem_of_getElem? (i := 7) rfl)) (inU_3 _ (List.mem_of_getElem? (i := 8) rfl)) (inU_3 _ (List.mem_of_getElem? (i := 9) rfl)) (inU_1 _ (List.mem_of_getElem? (i := 17) rfl)) (inU_3 _ (List.mem_of_getElem? (i := 10) rfl)) rfl rfl (by decide +kernel) ⟨Nat.le_of_ble_eq_true rfl, Nat.le_of_ble_eq_true rfl⟩) (k_recv Z X hd1 rfl) rfl hl.1 rfl (Nat.le_of_ble_eq_true rfl) dX7_init_35 ⟨(by first | exact Nat.le_of_ble_eq_true rfl | (show _ ≤ (_ : Nat); simp only [headSpec]; omega)), (by first | exact Nat.le_of_ble_eq_true rfl | (show _ ≤ (_ : Nat); simp only [headSpec]; omega))⟩) (fun r_35 ad1 ct1 H locs hp X => ?_)
          obtain ⟨rfl, z, cap1, k1, k2, k3, hp1, hp2⟩ := hp
          have h := h.ad (cap := cap) (dq := dq) (z := z) cN k1 k2 k3
          rw [hp1, hp2] at X
          obtain ⟨wa9, wc9, h, X⟩ : ∃ y1 y2, mk7 G 4 (ad 0 0) z10 y1 y2 ∧ kX E G s H locs y1 y2 := ⟨_, _, h, X⟩
          clear hd1 hd2 cN
          refine lv_pop hx hb dX7_init_38 rfl ?_
          refine lv_iinc (v := (nI 4)) (lv' := [(1, .int (nI 4)), (0, .ref (ad 0 0))]) hx hb dX7_init_39 hl (k := 0) rfl (nI_1 _) (by decide) rfl (fun ls hl => ?_)
          refine lv_goto (tgt := 17) hx hb dX7_init_42 (by decide) ?_
          refine lv_iload_n hx hb dX7_init_17 rfl (lv_at hl 0 rfl) ?_
          refine lv_bipush (v := 6) hx hb dX7_init_18 (by decide) ?_
          refine lv_icmp_ge (tgt := 45) hx hb dX7_init_20 (by decide) (fun c_20 => ?_) (fun c_20 => ?_)
          · exact absurd c_20 (by decide)
          · refine lv_aload_n hx hb dX7_init_23 rfl (lv_at hl 1 rfl) ?_
            refine W.eq (congrArg (fun y => F0 m 24 ls [.ref y]) h.1.symm) ?_
            refine k_get (index := 10) (j := 0) (ad := wa9) (k := 0) (i := 0) Z X h.2.2.1 inlX7 rfl (by decide) (inU_1 _ (List.mem_of_getElem? (i := 18) rfl)) (fun _ h => h) (v := .ref z10) rfl dX7_init_24 ?_
            refine k_new (fs := [.int 0, .int 0, .int 0]) (ci := 3) (ty0 := tyX0) 3 4 Z X inlX0 tyX0_ok rfl (inU_1 _ (List.mem_of_getElem? (i := 19) rfl)) (inU_1 _ (List.mem_of_getElem? (i := 20) rfl)) (inU_1 _ (List.mem_of_getElem? (i := 21) rfl)) (fun j hj => by match j, hj with | 0, _ => rfl | 1, _ => rfl | 2, _ => rfl) (Nat.le_of_ble_eq_true rfl) (Nat.le_of_ble_eq_true rfl) dX7_init_27 (fun z H X => ?_)
            have h := h.nw z (.inr (3, [.int 0, .int 0, .int 0]))
            obtain ⟨wa10, hA⟩ : ∃ y, y = aup wa9 3 4 z := ⟨_, rfl⟩
            obtain ⟨wc10, hC⟩ : ∃ y, y = cup wc9 3 4 (.inr (3, [.int 0, .int 0, .int 0])) := ⟨_, rfl⟩
            rw [← hA, ← hC] at X h
            have eN : wa10 3 4 = z := by rw [hA]; exact aup_s
            subst eN
            have cN : wc10 3 4 = some (.inr (3, [.int 0, .int 0, .int 0])) := by rw [hC]; exact cup_s
            clear hA hC
            refine lv_dup hx hb dX7_init_30 rfl ?_
            refine lv_iload_n hx hb dX7_init_31 rfl (lv_at hl 0 rfl) ?_
            refine k_Rv X (k_runI (As := [.int (nI 4)]) (rest := [.ref (wa10 3 4), .ref z10]) Z X (c_X0_init l E G wa10 wc10 4 4 cN) (k_cwI 1 Z.1.2.2.2.2 (inU_3 _ (List.mem_of_getElem? (i := 2) rfl)) (inU_3 _ (List.mem_of_getElem? (i := 3) rfl)) (inU_1 _ (List.mem_of_getElem? (i := 21) rfl)) (inU_3 _ (List.mem_of_getElem? (i := 4) rfl)) rfl rfl rfl (by decide +kernel) ⟨Nat.le_of_ble_eq_true rfl, Nat.le_of_ble_eq_true rfl⟩) rfl hl.1 rfl (Nat.le_of_ble_eq_true rfl) dX7_init_32 ⟨(by first | exact Nat.le_of_ble_eq_true rfl | (show _ ≤ (_ : Nat); simp only [headSpec]; omega)), (by first | exact Nat.le_of_ble_eq_true rfl | (show _ ≤ (_ : Nat); simp only [headSpec]; omega))⟩) (fun ad1 ct1 H locs hp X => ?_)
            obtain ⟨ha_, hb_⟩ := hp
            rw [← ha_, hb_] at X
            have h := h.cw (.inr (3, [.int (nI 4), .int 0, .int 0]))
            obtain ⟨wc10i, hC⟩ : ∃ y, y = cup wc10 3 4 (.inr (3, [.int (nI 4), .int 0, .int 0])) := ⟨_, rfl⟩
            rw [← hC] at X h
            have cN : wc10i 3 4 = some (.inr (3, [.int (nI 4), .int 0, .int 0])) := by rw [hC]; exact cup_s
            clear hC
            refine W.eq (congrArg (fun y => F0 m 35 ls [.ref (wa10 3 4), .ref y]) h.2.1.symm) ?_
            obtain ⟨cap, dq, hd1, hd2⟩ := h.2.2.2.1
            refine k_Ri X (k_runV (As := [.ref (wa10 3 4)]) (rest := []) Z X (c_Jx4a65c_add_9ea2d l E G wa10 wc10i hE 0 4 3 3 (fun j => if j < 4 then some (wa10 3 j) else none) (RX0, TX0, 3) (nI 4) dq 4 _ rfl (List.mem_of_getElem? (i := 7) rfl) hd1 cN (by decide) ⟨by decide, by decide, by decide⟩ (kEl_of (fun j hj => ⟨_, h.2.2.2.2.1 j hj⟩)) h.2.2.2.2.2 cap hd2 (fun j h => if_neg (by omega))) (k_cwV 1 Z.1.2.2.2.2 (inU_3 _ (List.mem_of_getElem? (i := 7) rfl)) (inU_3 _ (List.mem_of_getElem? (i := 8) rfl)) (inU_3 _ (List.mem_of_getElem? (i := 9) rfl)) (inU_1 _ (List.mem_of_getElem? (i := 17) rfl)) (inU_3 _ (List.mem_of_getElem? (i := 10) rfl)) rfl rfl (by decide +kernel) ⟨Nat.le_of_ble_eq_true rfl, Nat.le_of_ble_eq_true rfl⟩) (k_recv Z X hd1 rfl) rfl hl.1 rfl (Nat.le_of_ble_eq_true rfl) dX7_init_35 ⟨(by first | exact Nat.le_of_ble_eq_true rfl | (show _ ≤ (_ : Nat); simp only [headSpec]; omega)), (by first | exact Nat.le_of_ble_eq_true rfl | (show _ ≤ (_ : Nat); simp only [headSpec]; omega))⟩) (fun r_35 ad1 ct1 H locs hp X => ?_)
            obtain ⟨rfl, z, cap1, k1, k2, k3, hp1, hp2⟩ := hp
            have h := h.ad (cap := cap) (dq := dq) (z := z) cN k1 k2 k3
            rw [hp1, hp2] at X
            obtain ⟨wa11, wc11, h, X⟩ : ∃ y1 y2, mk7 G 5 (ad 0 0) z10 y1 y2 ∧ kX E G s H locs y1 y2 := ⟨_, _, h, X⟩
            clear hd1 hd2 cN
            refine lv_pop hx hb dX7_init_38 rfl ?_
            refine lv_iinc (v := (nI 5)) (lv' := [(1, .int (nI 5)), (0, .ref (ad 0 0))]) hx hb dX7_init_39 hl (k := 0) rfl (nI_1 _) (by decide) rfl (fun ls hl => ?_)
            refine lv_goto (tgt := 17) hx hb dX7_init_42 (by decide) ?_
            refine lv_iload_n hx hb dX7_init_17 rfl (lv_at hl 0 rfl) ?_
            refine lv_bipush (v := 6) hx hb dX7_init_18 (by decide) ?_
            refine lv_icmp_ge (tgt := 45) hx hb dX7_init_20 (by decide) (fun c_20 => ?_) (fun c_20 => ?_)
            · exact absurd c_20 (by decide)
            · refine lv_aload_n hx hb dX7_init_23 rfl (lv_at hl 1 rfl) ?_
              refine W.eq (congrArg (fun y => F0 m 24 ls [.ref y]) h.1.symm) ?_
              refine k_get (index := 10) (j := 0) (ad := wa11) (k := 0) (i := 0) Z X h.2.2.1 inlX7 rfl (by decide) (inU_1 _ (List.mem_of_getElem? (i := 18) rfl)) (fun _ h => h) (v := .ref z10) rfl dX7_init_24 ?_
              refine k_new (fs := [.int 0, .int 0, .int 0]) (ci := 3) (ty0 := tyX0) 3 5 Z X inlX0 tyX0_ok rfl (inU_1 _ (List.mem_of_getElem? (i := 19) rfl)) (inU_1 _ (List.mem_of_getElem? (i := 20) rfl)) (inU_1 _ (List.mem_of_getElem? (i := 21) rfl)) (fun j hj => by match j, hj with | 0, _ => rfl | 1, _ => rfl | 2, _ => rfl) (Nat.le_of_ble_eq_true rfl) (Nat.le_of_ble_eq_true rfl) dX7_init_27 (fun z H X => ?_)
              have h := h.nw z (.inr (3, [.int 0, .int 0, .int 0]))
              obtain ⟨wa12, hA⟩ : ∃ y, y = aup wa11 3 5 z := ⟨_, rfl⟩
              obtain ⟨wc12, hC⟩ : ∃ y, y = cup wc11 3 5 (.inr (3, [.int 0, .int 0, .int 0])) := ⟨_, rfl⟩
              rw [← hA, ← hC] at X h
              have eN : wa12 3 5 = z := by rw [hA]; exact aup_s
              subst eN
              have cN : wc12 3 5 = some (.inr (3, [.int 0, .int 0, .int 0])) := by rw [hC]; exact cup_s
              clear hA hC
              refine lv_dup hx hb dX7_init_30 rfl ?_
              refine lv_iload_n hx hb dX7_init_31 rfl (lv_at hl 0 rfl) ?_
              refine k_Rv X (k_runI (As := [.int (nI 5)]) (rest := [.ref (wa12 3 5), .ref z10]) Z X (c_X0_init l E G wa12 wc12 5 5 cN) (k_cwI 1 Z.1.2.2.2.2 (inU_3 _ (List.mem_of_getElem? (i := 2) rfl)) (inU_3 _ (List.mem_of_getElem? (i := 3) rfl)) (inU_1 _ (List.mem_of_getElem? (i := 21) rfl)) (inU_3 _ (List.mem_of_getElem? (i := 4) rfl)) rfl rfl rfl (by decide +kernel) ⟨Nat.le_of_ble_eq_true rfl, Nat.le_of_ble_eq_true rfl⟩) rfl hl.1 rfl (Nat.le_of_ble_eq_true rfl) dX7_init_32 ⟨(by first | exact Nat.le_of_ble_eq_true rfl | (show _ ≤ (_ : Nat); simp only [headSpec]; omega)), (by first | exact Nat.le_of_ble_eq_true rfl | (show _ ≤ (_ : Nat); simp only [headSpec]; omega))⟩) (fun ad1 ct1 H locs hp X => ?_)
              obtain ⟨ha_, hb_⟩ := hp
              rw [← ha_, hb_] at X
              have h := h.cw (.inr (3, [.int (nI 5), .int 0, .int 0]))
              obtain ⟨wc12i, hC⟩ : ∃ y, y = cup wc12 3 5 (.inr (3, [.int (nI 5), .int 0, .int 0])) := ⟨_, rfl⟩
              rw [← hC] at X h
              have cN : wc12i 3 5 = some (.inr (3, [.int (nI 5), .int 0, .int 0])) := by rw [hC]; exact cup_s
              clear hC
              refine W.eq (congrArg (fun y => F0 m 35 ls [.ref (wa12 3 5), .ref y]) h.2.1.symm) ?_
              obtain ⟨cap, dq, hd1, hd2⟩ := h.2.2.2.1
              refine k_Ri X (k_runV (As := [.ref (wa12 3 5)]) (rest := []) Z X (c_Jx4a65c_add_9ea2d l E G wa12 wc12i hE 0 5 3 3 (fun j => if j < 5 then some (wa12 3 j) else none) (RX0, TX0, 3) (nI 5) dq 5 _ rfl (List.mem_of_getElem? (i := 7) rfl) hd1 cN (by decide) ⟨by decide, by decide, by decide⟩ (kEl_of (fun j hj => ⟨_, h.2.2.2.2.1 j hj⟩)) h.2.2.2.2.2 cap hd2 (fun j h => if_neg (by omega))) (k_cwV 1 Z.1.2.2.2.2 (inU_3 _ (List.mem_of_getElem? (i := 7) rfl)) (inU_3 _ (List.mem_of_getElem? (i := 8) rfl)) (inU_3 _ (List.mem_of_getElem? (i := 9) rfl)) (inU_1 _ (List.mem_of_getElem? (i := 17) rfl)) (inU_3 _ (List.mem_of_getElem? (i := 10) rfl)) rfl rfl (by decide +kernel) ⟨Nat.le_of_ble_eq_true rfl, Nat.le_of_ble_eq_true rfl⟩) (k_recv Z X hd1 rfl) rfl hl.1 rfl (Nat.le_of_ble_eq_true rfl) dX7_init_35 ⟨(by first | exact Nat.le_of_ble_eq_true rfl | (show _ ≤ (_ : Nat); simp only [headSpec]; omega)), (by first | exact Nat.le_of_ble_eq_true rfl | (show _ ≤ (_ : Nat); simp only [headSpec]; omega))⟩) (fun r_35 ad1 ct1 H locs hp X => ?_)
              obtain ⟨rfl, z, cap1, k1, k2, k3, hp1, hp2⟩ := hp
              have h := h.ad (cap := cap) (dq := dq) (z := z) cN k1 k2 k3
              rw [hp1, hp2] at X
              obtain ⟨wa13, wc13, h, X⟩ : ∃ y1 y2, mk7 G 6 (ad 0 0) z10 y1 y2 ∧ kX E G s H locs y1 y2 := ⟨_, _, h, X⟩
              clear hd1 hd2 cN
              refine lv_pop hx hb dX7_init_38 rfl ?_
              refine lv_iinc (v := (nI 6)) (lv' := [(1, .int (nI 6)), (0, .ref (ad 0 0))]) hx hb dX7_init_39 hl (k := 0) rfl (nI_1 _) (by decide) rfl (fun ls hl => ?_)
              refine lv_goto (tgt := 17) hx hb dX7_init_42 (by decide) ?_
              refine lv_iload_n hx hb dX7_init_17 rfl (lv_at hl 0 rfl) ?_
              refine lv_bipush (v := 6) hx hb dX7_init_18 (by decide) ?_
              refine lv_icmp_ge (tgt := 45) hx hb dX7_init_20 (by decide) (fun c_20 => ?_) (fun c_20 => ?_)
              · obtain ⟨a00, a10, c_0_0, ⟨cap, dq, c_1_0, hd2⟩, F3, F98⟩ := h
                obtain ⟨hdq, p1, p2, p3, F2⟩ : dq = wa13 2 0 ∧ 10 ≤ cap ∧ 6 ≤ cap ∧ cap ≤ 120 ∧ wc13 2 0 = some (kOa G cap (fun j => if j < 6 then some (wa13 3 j) else none)) := by
                  rcases hd2 with ⟨h, -⟩ | h
                  · cases h
                  · exact h
                subst hdq
                subst a10
                clear hd2
                refine lv_aload_n hx hb dX7_init_45 rfl (lv_at hl 1 rfl) ?_
                refine k_new (fs := [.int 0, .null, .int 0]) (ci := 2) (ty0 := tyJx4a65c) 1 1 Z X inlJx4a65c tyJx4a65c_ok rfl (inU_1 _ (List.mem_of_getElem? (i := 15) rfl)) (inU_1 _ (List.mem_of_getElem? (i := 16) rfl)) (inU_1 _ (List.mem_of_getElem? (i := 17) rfl)) (fun j hj => by match j, hj with | 0, _ => rfl | 1, _ => rfl | 2, _ => rfl) (Nat.le_of_ble_eq_true rfl) (Nat.le_of_ble_eq_true rfl) dX7_init_46 (fun z H X => ?_)
                obtain ⟨wa14, hA⟩ : ∃ y, y = aup wa13 1 1 z := ⟨_, rfl⟩
                obtain ⟨wc14, hC⟩ : ∃ y, y = cup wc13 1 1 (.inr (2, [.int 0, .null, .int 0])) := ⟨_, rfl⟩
                rw [← hA, ← hC] at X
                have eN : wa14 1 1 = z := by rw [hA]; exact aup_s
                subst eN
                have eX : ∀ k i, ¬ (k = 1 ∧ i = 1) → wa14 k i = wa13 k i := fun k i h => by rw [hA]; exact aup_n h
                have cN : wc14 1 1 = some (.inr (2, [.int 0, .null, .int 0])) := by rw [hC]; exact cup_s
                have cX : ∀ k i, ¬ (k = 1 ∧ i = 1) → wc14 k i = wc13 k i := fun k i h => by rw [hC]; exact cup_n h
                have c_0_0 : wc14 0 0 = some (.inr (10, [.ref (wa14 1 0), .null, .null, .null, .null, .null, .null, .int 0])) := by rw [(cX _ _ (by simp)), c_0_0, show wa14 1 0 = wa13 1 0 from (eX _ _ (by simp))]
                have c_1_0 : wc14 1 0 = some (.inr (2, [.int (nI 6), .ref (wa14 2 0), .int (nI 6)])) := by rw [(cX _ _ (by simp)), c_1_0, show wa14 2 0 = wa13 2 0 from (eX _ _ (by simp))]
                have F2 : wc14 2 0 = some (kOa G cap (fun j => if j < 6 then some (wa14 3 j) else none)) := by rw [(cX _ _ (by simp)), F2]; simp only [show ∀ j, wa14 3 j = wa13 3 j from fun j => (eX _ _ (by simp))]
                have F3 : ∀ j, j < 6 → wc14 3 j = some (.inr (3, [.int (nI j), .int 0, .int 0])) := fun j hj => (cX _ _ (by simp)).trans (F3 j hj)
                have F98 : wc14 98 0 = none := (cX _ _ (by simp)).trans F98
                have a00 : wa14 0 0 = ad 0 0 := (eX _ _ (by simp)).trans a00
                clear hA hC eX cX
                refine lv_dup hx hb dX7_init_49 rfl ?_
                refine k_Rv X (k_runI (As := []) (rest := [.ref (wa14 1 1), .ref (ad 0 0)]) Z X (c_Jx4a65c_init_da8c8 l E G wa14 wc14 1 _ _ _ hE cN) (k_cwI 0 Z.1.2.2.2.2 (inU_2 _ (List.mem_of_getElem? (i := 11) rfl)) (inU_2 _ (List.mem_of_getElem? (i := 12) rfl)) (inU_1 _ (List.mem_of_getElem? (i := 17) rfl)) (inU_2 _ (List.mem_of_getElem? (i := 13) rfl)) rfl rfl rfl (by decide +kernel) ⟨Nat.le_of_ble_eq_true rfl, Nat.le_of_ble_eq_true rfl⟩) rfl hl.1 rfl (Nat.le_of_ble_eq_true rfl) dX7_init_50 ⟨(by first | exact Nat.le_of_ble_eq_true rfl | (show _ ≤ (_ : Nat); simp only [headSpec]; omega)), (by first | exact Nat.le_of_ble_eq_true rfl | (show _ ≤ (_ : Nat); simp only [headSpec]; omega))⟩) (fun ad1 ct1 H locs hp X => ?_)
                obtain ⟨ha_, hb_⟩ := hp
                rw [← ha_, hb_] at X
                obtain ⟨wc14i, hC⟩ : ∃ y, y = cup wc14 1 1 (.inr (2, [.int 0, .ref G.2.2.2.2.2.2, .int 0])) := ⟨_, rfl⟩
                rw [← hC] at X
                have cX : ∀ k i, ¬ (k = 1 ∧ i = 1) → wc14i k i = wc14 k i := fun k i h => by rw [hC]; exact cup_n h
                have c_1_1 : wc14i 1 1 = some (.inr (2, [.int 0, .ref G.2.2.2.2.2.2, .int 0])) := by rw [hC]; exact cup_s
                have c_0_0 : wc14i 0 0 = some (.inr (10, [.ref (wa14 1 0), .null, .null, .null, .null, .null, .null, .int 0])) := (cX _ _ (by simp)).trans c_0_0
                have c_1_0 : wc14i 1 0 = some (.inr (2, [.int (nI 6), .ref (wa14 2 0), .int (nI 6)])) := (cX _ _ (by simp)).trans c_1_0
                have F2 : wc14i 2 0 = some (kOa G cap (fun j => if j < 6 then some (wa14 3 j) else none)) := (cX _ _ (by simp)).trans F2
                have F3 : ∀ j, j < 6 → wc14i 3 j = some (.inr (3, [.int (nI j), .int 0, .int 0])) := fun j hj => (cX _ _ (by simp)).trans (F3 j hj)
                have F98 : wc14i 98 0 = none := (cX _ _ (by simp)).trans F98
                have a00 : wa14 0 0 = ad 0 0 := a00
                clear hC cX cN
                refine W.eq (congrArg (fun y => F0 m 53 ls [.ref (wa14 1 1), .ref y]) a00.symm) ?_
                refine k_putF (index := 25) (j := 1) (k := 0) (i := 0) Z X c_0_0 inlX7 tyX7_ok nmX7 rfl (by decide) (inU_1 _ (List.mem_of_getElem? (i := 22) rfl)) rfl hin rfl (Nat.le_of_ble_eq_true rfl) rfl rfl dX7_init_53 (fun H locs X => ?_)
                obtain ⟨wc14p, hC⟩ : ∃ y, y = cup wc14i 0 0 (.inr (10, [.ref (wa14 1 0), .ref (wa14 1 1), .null, .null, .null, .null, .null, .int 0])) := ⟨_, rfl⟩
                have X : kX E G s H locs wa14 wc14p := by rw [hC]; exact X
                have cX : ∀ k i, ¬ (k = 0 ∧ i = 0) → wc14p k i = wc14i k i := fun k i h => by rw [hC]; exact cup_n h
                have c_0_0 : wc14p 0 0 = some (.inr (10, [.ref (wa14 1 0), .ref (wa14 1 1), .null, .null, .null, .null, .null, .int 0])) := by rw [hC]; exact cup_s
                have c_1_0 : wc14p 1 0 = some (.inr (2, [.int (nI 6), .ref (wa14 2 0), .int (nI 6)])) := (cX _ _ (by simp)).trans c_1_0
                have F2 : wc14p 2 0 = some (kOa G cap (fun j => if j < 6 then some (wa14 3 j) else none)) := (cX _ _ (by simp)).trans F2
                have F3 : ∀ j, j < 6 → wc14p 3 j = some (.inr (3, [.int (nI j), .int 0, .int 0])) := fun j hj => (cX _ _ (by simp)).trans (F3 j hj)
                have F98 : wc14p 98 0 = none := (cX _ _ (by simp)).trans F98
                have c_1_1 : wc14p 1 1 = some (.inr (2, [.int 0, .ref G.2.2.2.2.2.2, .int 0])) := (cX _ _ (by simp)).trans c_1_1
                have a00 : wa14 0 0 = ad 0 0 := a00
                clear hC cX
                refine lv_aload_n hx hb dX7_init_56 rfl (lv_at hl 1 rfl) ?_
                refine k_new (fs := [.int 0, .null, .int 0]) (ci := 2) (ty0 := tyJx4a65c) 1 2 Z X inlJx4a65c tyJx4a65c_ok rfl (inU_1 _ (List.mem_of_getElem? (i := 15) rfl)) (inU_1 _ (List.mem_of_getElem? (i := 16) rfl)) (inU_1 _ (List.mem_of_getElem? (i := 17) rfl)) (fun j hj => by match j, hj with | 0, _ => rfl | 1, _ => rfl | 2, _ => rfl) (Nat.le_of_ble_eq_true rfl) (Nat.le_of_ble_eq_true rfl) dX7_init_57 (fun z H X => ?_)
                obtain ⟨wa15, hA⟩ : ∃ y, y = aup wa14 1 2 z := ⟨_, rfl⟩
                obtain ⟨wc15, hC⟩ : ∃ y, y = cup wc14p 1 2 (.inr (2, [.int 0, .null, .int 0])) := ⟨_, rfl⟩
                rw [← hA, ← hC] at X
                have eN : wa15 1 2 = z := by rw [hA]; exact aup_s
                subst eN
                have eX : ∀ k i, ¬ (k = 1 ∧ i = 2) → wa15 k i = wa14 k i := fun k i h => by rw [hA]; exact aup_n h
                have cN : wc15 1 2 = some (.inr (2, [.int 0, .null, .int 0])) := by rw [hC]; exact cup_s
                have cX : ∀ k i, ¬ (k = 1 ∧ i = 2) → wc15 k i = wc14p k i := fun k i h => by rw [hC]; exact cup_n h
                have c_0_0 : wc15 0 0 = some (.inr (10, [.ref (wa15 1 0), .ref (wa15 1 1), .null, .null, .null, .null, .null, .int 0])) := by rw [(cX _ _ (by simp)), c_0_0, show wa15 1 0 = wa14 1 0 from (eX _ _ (by simp)), show wa15 1 1 = wa14 1 1 from (eX _ _ (by simp))]
                have c_1_0 : wc15 1 0 = some (.inr (2, [.int (nI 6), .ref (wa15 2 0), .int (nI 6)])) := by rw [(cX _ _ (by simp)), c_1_0, show wa15 2 0 = wa14 2 0 from (eX _ _ (by simp))]
                have F2 : wc15 2 0 = some (kOa G cap (fun j => if j < 6 then some (wa15 3 j) else none)) := by rw [(cX _ _ (by simp)), F2]; simp only [show ∀ j, wa15 3 j = wa14 3 j from fun j => (eX _ _ (by simp))]
                have F3 : ∀ j, j < 6 → wc15 3 j = some (.inr (3, [.int (nI j), .int 0, .int 0])) := fun j hj => (cX _ _ (by simp)).trans (F3 j hj)
                have F98 : wc15 98 0 = none := (cX _ _ (by simp)).trans F98
                have c_1_1 : wc15 1 1 = some (.inr (2, [.int 0, .ref G.2.2.2.2.2.2, .int 0])) := (cX _ _ (by simp)).trans c_1_1
                have a00 : wa15 0 0 = ad 0 0 := (eX _ _ (by simp)).trans a00
                clear hA hC eX cX
                refine lv_dup hx hb dX7_init_60 rfl ?_
                refine k_Rv X (k_runI (As := []) (rest := [.ref (wa15 1 2), .ref (ad 0 0)]) Z X (c_Jx4a65c_init_da8c8 l E G wa15 wc15 2 _ _ _ hE cN) (k_cwI 0 Z.1.2.2.2.2 (inU_2 _ (List.mem_of_getElem? (i := 11) rfl)) (inU_2 _ (List.mem_of_getElem? (i := 12) rfl)) (inU_1 _ (List.mem_of_getElem? (i := 17) rfl)) (inU_2 _ (List.mem_of_getElem? (i := 13) rfl)) rfl rfl rfl (by decide +kernel) ⟨Nat.le_of_ble_eq_true rfl, Nat.le_of_ble_eq_true rfl⟩) rfl hl.1 rfl (Nat.le_of_ble_eq_true rfl) dX7_init_61 ⟨(by first | exact Nat.le_of_ble_eq_true rfl | (show _ ≤ (_ : Nat); simp only [headSpec]; omega)), (by first | exact Nat.le_of_ble_eq_true rfl | (show _ ≤ (_ : Nat); simp only [headSpec]; omega))⟩) (fun ad1 ct1 H locs hp X => ?_)
                obtain ⟨ha_, hb_⟩ := hp
                rw [← ha_, hb_] at X
                obtain ⟨wc15i, hC⟩ : ∃ y, y = cup wc15 1 2 (.inr (2, [.int 0, .ref G.2.2.2.2.2.2, .int 0])) := ⟨_, rfl⟩
                rw [← hC] at X
                have cX : ∀ k i, ¬ (k = 1 ∧ i = 2) → wc15i k i = wc15 k i := fun k i h => by rw [hC]; exact cup_n h
                have c_1_2 : wc15i 1 2 = some (.inr (2, [.int 0, .ref G.2.2.2.2.2.2, .int 0])) := by rw [hC]; exact cup_s
                have c_0_0 : wc15i 0 0 = some (.inr (10, [.ref (wa15 1 0), .ref (wa15 1 1), .null, .null, .null, .null, .null, .int 0])) := (cX _ _ (by simp)).trans c_0_0
                have c_1_0 : wc15i 1 0 = some (.inr (2, [.int (nI 6), .ref (wa15 2 0), .int (nI 6)])) := (cX _ _ (by simp)).trans c_1_0
                have F2 : wc15i 2 0 = some (kOa G cap (fun j => if j < 6 then some (wa15 3 j) else none)) := (cX _ _ (by simp)).trans F2
                have F3 : ∀ j, j < 6 → wc15i 3 j = some (.inr (3, [.int (nI j), .int 0, .int 0])) := fun j hj => (cX _ _ (by simp)).trans (F3 j hj)
                have F98 : wc15i 98 0 = none := (cX _ _ (by simp)).trans F98
                have c_1_1 : wc15i 1 1 = some (.inr (2, [.int 0, .ref G.2.2.2.2.2.2, .int 0])) := (cX _ _ (by simp)).trans c_1_1
                have a00 : wa15 0 0 = ad 0 0 := a00
                clear hC cX cN
                refine W.eq (congrArg (fun y => F0 m 64 ls [.ref (wa15 1 2), .ref y]) a00.symm) ?_
                refine k_putF (index := 28) (j := 2) (k := 0) (i := 0) Z X c_0_0 inlX7 tyX7_ok nmX7 rfl (by decide) (inU_1 _ (List.mem_of_getElem? (i := 23) rfl)) rfl hin rfl (Nat.le_of_ble_eq_true rfl) rfl rfl dX7_init_64 (fun H locs X => ?_)
                obtain ⟨wc15p, hC⟩ : ∃ y, y = cup wc15i 0 0 (.inr (10, [.ref (wa15 1 0), .ref (wa15 1 1), .ref (wa15 1 2), .null, .null, .null, .null, .int 0])) := ⟨_, rfl⟩
                have X : kX E G s H locs wa15 wc15p := by rw [hC]; exact X
                have cX : ∀ k i, ¬ (k = 0 ∧ i = 0) → wc15p k i = wc15i k i := fun k i h => by rw [hC]; exact cup_n h
                have c_0_0 : wc15p 0 0 = some (.inr (10, [.ref (wa15 1 0), .ref (wa15 1 1), .ref (wa15 1 2), .null, .null, .null, .null, .int 0])) := by rw [hC]; exact cup_s
                have c_1_0 : wc15p 1 0 = some (.inr (2, [.int (nI 6), .ref (wa15 2 0), .int (nI 6)])) := (cX _ _ (by simp)).trans c_1_0
                have F2 : wc15p 2 0 = some (kOa G cap (fun j => if j < 6 then some (wa15 3 j) else none)) := (cX _ _ (by simp)).trans F2
                have F3 : ∀ j, j < 6 → wc15p 3 j = some (.inr (3, [.int (nI j), .int 0, .int 0])) := fun j hj => (cX _ _ (by simp)).trans (F3 j hj)
                have F98 : wc15p 98 0 = none := (cX _ _ (by simp)).trans F98
                have c_1_1 : wc15p 1 1 = some (.inr (2, [.int 0, .ref G.2.2.2.2.2.2, .int 0])) := (cX _ _ (by simp)).trans c_1_1
                have c_1_2 : wc15p 1 2 = some (.inr (2, [.int 0, .ref G.2.2.2.2.2.2, .int 0])) := (cX _ _ (by simp)).trans c_1_2
                have a00 : wa15 0 0 = ad 0 0 := a00
                clear hC cX
                refine lv_aload_n hx hb dX7_init_67 rfl (lv_at hl 1 rfl) ?_
                refine k_new (fs := [.int 0, .null, .int 0]) (ci := 2) (ty0 := tyJx4a65c) 1 3 Z X inlJx4a65c tyJx4a65c_ok rfl (inU_1 _ (List.mem_of_getElem? (i := 15) rfl)) (inU_1 _ (List.mem_of_getElem? (i := 16) rfl)) (inU_1 _ (List.mem_of_getElem? (i := 17) rfl)) (fun j hj => by match j, hj with | 0, _ => rfl | 1, _ => rfl | 2, _ => rfl) (Nat.le_of_ble_eq_true rfl) (Nat.le_of_ble_eq_true rfl) dX7_init_68 (fun z H X => ?_)
                obtain ⟨wa16, hA⟩ : ∃ y, y = aup wa15 1 3 z := ⟨_, rfl⟩
                obtain ⟨wc16, hC⟩ : ∃ y, y = cup wc15p 1 3 (.inr (2, [.int 0, .null, .int 0])) := ⟨_, rfl⟩
                rw [← hA, ← hC] at X
                have eN : wa16 1 3 = z := by rw [hA]; exact aup_s
                subst eN
                have eX : ∀ k i, ¬ (k = 1 ∧ i = 3) → wa16 k i = wa15 k i := fun k i h => by rw [hA]; exact aup_n h
                have cN : wc16 1 3 = some (.inr (2, [.int 0, .null, .int 0])) := by rw [hC]; exact cup_s
                have cX : ∀ k i, ¬ (k = 1 ∧ i = 3) → wc16 k i = wc15p k i := fun k i h => by rw [hC]; exact cup_n h
                have c_0_0 : wc16 0 0 = some (.inr (10, [.ref (wa16 1 0), .ref (wa16 1 1), .ref (wa16 1 2), .null, .null, .null, .null, .int 0])) := by rw [(cX _ _ (by simp)), c_0_0, show wa16 1 0 = wa15 1 0 from (eX _ _ (by simp)), show wa16 1 1 = wa15 1 1 from (eX _ _ (by simp)), show wa16 1 2 = wa15 1 2 from (eX _ _ (by simp))]
                have c_1_0 : wc16 1 0 = some (.inr (2, [.int (nI 6), .ref (wa16 2 0), .int (nI 6)])) := by rw [(cX _ _ (by simp)), c_1_0, show wa16 2 0 = wa15 2 0 from (eX _ _ (by simp))]
                have F2 : wc16 2 0 = some (kOa G cap (fun j => if j < 6 then some (wa16 3 j) else none)) := by rw [(cX _ _ (by simp)), F2]; simp only [show ∀ j, wa16 3 j = wa15 3 j from fun j => (eX _ _ (by simp))]
                have F3 : ∀ j, j < 6 → wc16 3 j = some (.inr (3, [.int (nI j), .int 0, .int 0])) := fun j hj => (cX _ _ (by simp)).trans (F3 j hj)
                have F98 : wc16 98 0 = none := (cX _ _ (by simp)).trans F98
                have c_1_1 : wc16 1 1 = some (.inr (2, [.int 0, .ref G.2.2.2.2.2.2, .int 0])) := (cX _ _ (by simp)).trans c_1_1
                have c_1_2 : wc16 1 2 = some (.inr (2, [.int 0, .ref G.2.2.2.2.2.2, .int 0])) := (cX _ _ (by simp)).trans c_1_2
                have a00 : wa16 0 0 = ad 0 0 := (eX _ _ (by simp)).trans a00
                clear hA hC eX cX
                refine lv_dup hx hb dX7_init_71 rfl ?_
                refine k_Rv X (k_runI (As := []) (rest := [.ref (wa16 1 3), .ref (ad 0 0)]) Z X (c_Jx4a65c_init_da8c8 l E G wa16 wc16 3 _ _ _ hE cN) (k_cwI 0 Z.1.2.2.2.2 (inU_2 _ (List.mem_of_getElem? (i := 11) rfl)) (inU_2 _ (List.mem_of_getElem? (i := 12) rfl)) (inU_1 _ (List.mem_of_getElem? (i := 17) rfl)) (inU_2 _ (List.mem_of_getElem? (i := 13) rfl)) rfl rfl rfl (by decide +kernel) ⟨Nat.le_of_ble_eq_true rfl, Nat.le_of_ble_eq_true rfl⟩) rfl hl.1 rfl (Nat.le_of_ble_eq_true rfl) dX7_init_72 ⟨(by first | exact Nat.le_of_ble_eq_true rfl | (show _ ≤ (_ : Nat); simp only [headSpec]; omega)), (by first | exact Nat.le_of_ble_eq_true rfl | (show _ ≤ (_ : Nat); simp only [headSpec]; omega))⟩) (fun ad1 ct1 H locs hp X => ?_)
                obtain ⟨ha_, hb_⟩ := hp
                rw [← ha_, hb_] at X
                obtain ⟨wc16i, hC⟩ : ∃ y, y = cup wc16 1 3 (.inr (2, [.int 0, .ref G.2.2.2.2.2.2, .int 0])) := ⟨_, rfl⟩
                rw [← hC] at X
                have cX : ∀ k i, ¬ (k = 1 ∧ i = 3) → wc16i k i = wc16 k i := fun k i h => by rw [hC]; exact cup_n h
                have c_1_3 : wc16i 1 3 = some (.inr (2, [.int 0, .ref G.2.2.2.2.2.2, .int 0])) := by rw [hC]; exact cup_s
                have c_0_0 : wc16i 0 0 = some (.inr (10, [.ref (wa16 1 0), .ref (wa16 1 1), .ref (wa16 1 2), .null, .null, .null, .null, .int 0])) := (cX _ _ (by simp)).trans c_0_0
                have c_1_0 : wc16i 1 0 = some (.inr (2, [.int (nI 6), .ref (wa16 2 0), .int (nI 6)])) := (cX _ _ (by simp)).trans c_1_0
                have F2 : wc16i 2 0 = some (kOa G cap (fun j => if j < 6 then some (wa16 3 j) else none)) := (cX _ _ (by simp)).trans F2
                have F3 : ∀ j, j < 6 → wc16i 3 j = some (.inr (3, [.int (nI j), .int 0, .int 0])) := fun j hj => (cX _ _ (by simp)).trans (F3 j hj)
                have F98 : wc16i 98 0 = none := (cX _ _ (by simp)).trans F98
                have c_1_1 : wc16i 1 1 = some (.inr (2, [.int 0, .ref G.2.2.2.2.2.2, .int 0])) := (cX _ _ (by simp)).trans c_1_1
                have c_1_2 : wc16i 1 2 = some (.inr (2, [.int 0, .ref G.2.2.2.2.2.2, .int 0])) := (cX _ _ (by simp)).trans c_1_2
                have a00 : wa16 0 0 = ad 0 0 := a00
                clear hC cX cN
                refine W.eq (congrArg (fun y => F0 m 75 ls [.ref (wa16 1 3), .ref y]) a00.symm) ?_
                refine k_putF (index := 31) (j := 3) (k := 0) (i := 0) Z X c_0_0 inlX7 tyX7_ok nmX7 rfl (by decide) (inU_2 _ (List.mem_of_getElem? (i := 0) rfl)) rfl hin rfl (Nat.le_of_ble_eq_true rfl) rfl rfl dX7_init_75 (fun H locs X => ?_)
                obtain ⟨wc16p, hC⟩ : ∃ y, y = cup wc16i 0 0 (.inr (10, [.ref (wa16 1 0), .ref (wa16 1 1), .ref (wa16 1 2), .ref (wa16 1 3), .null, .null, .null, .int 0])) := ⟨_, rfl⟩
                have X : kX E G s H locs wa16 wc16p := by rw [hC]; exact X
                have cX : ∀ k i, ¬ (k = 0 ∧ i = 0) → wc16p k i = wc16i k i := fun k i h => by rw [hC]; exact cup_n h
                have c_0_0 : wc16p 0 0 = some (.inr (10, [.ref (wa16 1 0), .ref (wa16 1 1), .ref (wa16 1 2), .ref (wa16 1 3), .null, .null, .null, .int 0])) := by rw [hC]; exact cup_s
                have c_1_0 : wc16p 1 0 = some (.inr (2, [.int (nI 6), .ref (wa16 2 0), .int (nI 6)])) := (cX _ _ (by simp)).trans c_1_0
                have F2 : wc16p 2 0 = some (kOa G cap (fun j => if j < 6 then some (wa16 3 j) else none)) := (cX _ _ (by simp)).trans F2
                have F3 : ∀ j, j < 6 → wc16p 3 j = some (.inr (3, [.int (nI j), .int 0, .int 0])) := fun j hj => (cX _ _ (by simp)).trans (F3 j hj)
                have F98 : wc16p 98 0 = none := (cX _ _ (by simp)).trans F98
                have c_1_1 : wc16p 1 1 = some (.inr (2, [.int 0, .ref G.2.2.2.2.2.2, .int 0])) := (cX _ _ (by simp)).trans c_1_1
                have c_1_2 : wc16p 1 2 = some (.inr (2, [.int 0, .ref G.2.2.2.2.2.2, .int 0])) := (cX _ _ (by simp)).trans c_1_2
                have c_1_3 : wc16p 1 3 = some (.inr (2, [.int 0, .ref G.2.2.2.2.2.2, .int 0])) := (cX _ _ (by simp)).trans c_1_3
                have a00 : wa16 0 0 = ad 0 0 := a00
                clear hC cX
                refine lv_aload_n hx hb dX7_init_78 rfl (lv_at hl 1 rfl) ?_
                refine k_new (fs := [.int 0, .null, .int 0]) (ci := 2) (ty0 := tyJx4a65c) 1 4 Z X inlJx4a65c tyJx4a65c_ok rfl (inU_1 _ (List.mem_of_getElem? (i := 15) rfl)) (inU_1 _ (List.mem_of_getElem? (i := 16) rfl)) (inU_1 _ (List.mem_of_getElem? (i := 17) rfl)) (fun j hj => by match j, hj with | 0, _ => rfl | 1, _ => rfl | 2, _ => rfl) (Nat.le_of_ble_eq_true rfl) (Nat.le_of_ble_eq_true rfl) dX7_init_79 (fun z H X => ?_)
                obtain ⟨wa17, hA⟩ : ∃ y, y = aup wa16 1 4 z := ⟨_, rfl⟩
                obtain ⟨wc17, hC⟩ : ∃ y, y = cup wc16p 1 4 (.inr (2, [.int 0, .null, .int 0])) := ⟨_, rfl⟩
                rw [← hA, ← hC] at X
                have eN : wa17 1 4 = z := by rw [hA]; exact aup_s
                subst eN
                have eX : ∀ k i, ¬ (k = 1 ∧ i = 4) → wa17 k i = wa16 k i := fun k i h => by rw [hA]; exact aup_n h
                have cN : wc17 1 4 = some (.inr (2, [.int 0, .null, .int 0])) := by rw [hC]; exact cup_s
                have cX : ∀ k i, ¬ (k = 1 ∧ i = 4) → wc17 k i = wc16p k i := fun k i h => by rw [hC]; exact cup_n h
                have c_0_0 : wc17 0 0 = some (.inr (10, [.ref (wa17 1 0), .ref (wa17 1 1), .ref (wa17 1 2), .ref (wa17 1 3), .null, .null, .null, .int 0])) := by rw [(cX _ _ (by simp)), c_0_0, show wa17 1 0 = wa16 1 0 from (eX _ _ (by simp)), show wa17 1 1 = wa16 1 1 from (eX _ _ (by simp)), show wa17 1 2 = wa16 1 2 from (eX _ _ (by simp)), show wa17 1 3 = wa16 1 3 from (eX _ _ (by simp))]
                have c_1_0 : wc17 1 0 = some (.inr (2, [.int (nI 6), .ref (wa17 2 0), .int (nI 6)])) := by rw [(cX _ _ (by simp)), c_1_0, show wa17 2 0 = wa16 2 0 from (eX _ _ (by simp))]
                have F2 : wc17 2 0 = some (kOa G cap (fun j => if j < 6 then some (wa17 3 j) else none)) := by rw [(cX _ _ (by simp)), F2]; simp only [show ∀ j, wa17 3 j = wa16 3 j from fun j => (eX _ _ (by simp))]
                have F3 : ∀ j, j < 6 → wc17 3 j = some (.inr (3, [.int (nI j), .int 0, .int 0])) := fun j hj => (cX _ _ (by simp)).trans (F3 j hj)
                have F98 : wc17 98 0 = none := (cX _ _ (by simp)).trans F98
                have c_1_1 : wc17 1 1 = some (.inr (2, [.int 0, .ref G.2.2.2.2.2.2, .int 0])) := (cX _ _ (by simp)).trans c_1_1
                have c_1_2 : wc17 1 2 = some (.inr (2, [.int 0, .ref G.2.2.2.2.2.2, .int 0])) := (cX _ _ (by simp)).trans c_1_2
                have c_1_3 : wc17 1 3 = some (.inr (2, [.int 0, .ref G.2.2.2.2.2.2, .int 0])) := (cX _ _ (by simp)).trans c_1_3
                have a00 : wa17 0 0 = ad 0 0 := (eX _ _ (by simp)).trans a00
                clear hA hC eX cX
                refine lv_dup hx hb dX7_init_82 rfl ?_
                refine k_Rv X (k_runI (As := []) (rest := [.ref (wa17 1 4), .ref (ad 0 0)]) Z X (c_Jx4a65c_init_da8c8 l E G wa17 wc17 4 _ _ _ hE cN) (k_cwI 0 Z.1.2.2.2.2 (inU_2 _ (List.mem_of_getElem? (i := 11) rfl)) (inU_2 _ (List.mem_of_getElem? (i := 12) rfl)) (inU_1 _ (List.mem_of_getElem? (i := 17) rfl)) (inU_2 _ (List.mem_of_getElem? (i := 13) rfl)) rfl rfl rfl (by decide +kernel) ⟨Nat.le_of_ble_eq_true rfl, Nat.le_of_ble_eq_true rfl⟩) rfl hl.1 rfl (Nat.le_of_ble_eq_true rfl) dX7_init_83 ⟨(by first | exact Nat.le_of_ble_eq_true rfl | (show _ ≤ (_ : Nat); simp only [headSpec]; omega)), (by first | exact Nat.le_of_ble_eq_true rfl | (show _ ≤ (_ : Nat); simp only [headSpec]; omega))⟩) (fun ad1 ct1 H locs hp X => ?_)
                obtain ⟨ha_, hb_⟩ := hp
                rw [← ha_, hb_] at X
                obtain ⟨wc17i, hC⟩ : ∃ y, y = cup wc17 1 4 (.inr (2, [.int 0, .ref G.2.2.2.2.2.2, .int 0])) := ⟨_, rfl⟩
                rw [← hC] at X
                have cX : ∀ k i, ¬ (k = 1 ∧ i = 4) → wc17i k i = wc17 k i := fun k i h => by rw [hC]; exact cup_n h
                have c_1_4 : wc17i 1 4 = some (.inr (2, [.int 0, .ref G.2.2.2.2.2.2, .int 0])) := by rw [hC]; exact cup_s
                have c_0_0 : wc17i 0 0 = some (.inr (10, [.ref (wa17 1 0), .ref (wa17 1 1), .ref (wa17 1 2), .ref (wa17 1 3), .null, .null, .null, .int 0])) := (cX _ _ (by simp)).trans c_0_0
                have c_1_0 : wc17i 1 0 = some (.inr (2, [.int (nI 6), .ref (wa17 2 0), .int (nI 6)])) := (cX _ _ (by simp)).trans c_1_0
                have F2 : wc17i 2 0 = some (kOa G cap (fun j => if j < 6 then some (wa17 3 j) else none)) := (cX _ _ (by simp)).trans F2
                have F3 : ∀ j, j < 6 → wc17i 3 j = some (.inr (3, [.int (nI j), .int 0, .int 0])) := fun j hj => (cX _ _ (by simp)).trans (F3 j hj)
                have F98 : wc17i 98 0 = none := (cX _ _ (by simp)).trans F98
                have c_1_1 : wc17i 1 1 = some (.inr (2, [.int 0, .ref G.2.2.2.2.2.2, .int 0])) := (cX _ _ (by simp)).trans c_1_1
                have c_1_2 : wc17i 1 2 = some (.inr (2, [.int 0, .ref G.2.2.2.2.2.2, .int 0])) := (cX _ _ (by simp)).trans c_1_2
                have c_1_3 : wc17i 1 3 = some (.inr (2, [.int 0, .ref G.2.2.2.2.2.2, .int 0])) := (cX _ _ (by simp)).trans c_1_3
                have a00 : wa17 0 0 = ad 0 0 := a00
                clear hC cX cN
                refine W.eq (congrArg (fun y => F0 m 86 ls [.ref (wa17 1 4), .ref y]) a00.symm) ?_
                refine k_putF (index := 34) (j := 4) (k := 0) (i := 0) Z X c_0_0 inlX7 tyX7_ok nmX7 rfl (by decide) (inU_2 _ (List.mem_of_getElem? (i := 1) rfl)) rfl hin rfl (Nat.le_of_ble_eq_true rfl) rfl rfl dX7_init_86 (fun H locs X => ?_)
                obtain ⟨wc17p, hC⟩ : ∃ y, y = cup wc17i 0 0 (.inr (10, [.ref (wa17 1 0), .ref (wa17 1 1), .ref (wa17 1 2), .ref (wa17 1 3), .ref (wa17 1 4), .null, .null, .int 0])) := ⟨_, rfl⟩
                have X : kX E G s H locs wa17 wc17p := by rw [hC]; exact X
                have cX : ∀ k i, ¬ (k = 0 ∧ i = 0) → wc17p k i = wc17i k i := fun k i h => by rw [hC]; exact cup_n h
                have c_0_0 : wc17p 0 0 = some (.inr (10, [.ref (wa17 1 0), .ref (wa17 1 1), .ref (wa17 1 2), .ref (wa17 1 3), .ref (wa17 1 4), .null, .null, .int 0])) := by rw [hC]; exact cup_s
                have c_1_0 : wc17p 1 0 = some (.inr (2, [.int (nI 6), .ref (wa17 2 0), .int (nI 6)])) := (cX _ _ (by simp)).trans c_1_0
                have F2 : wc17p 2 0 = some (kOa G cap (fun j => if j < 6 then some (wa17 3 j) else none)) := (cX _ _ (by simp)).trans F2
                have F3 : ∀ j, j < 6 → wc17p 3 j = some (.inr (3, [.int (nI j), .int 0, .int 0])) := fun j hj => (cX _ _ (by simp)).trans (F3 j hj)
                have F98 : wc17p 98 0 = none := (cX _ _ (by simp)).trans F98
                have c_1_1 : wc17p 1 1 = some (.inr (2, [.int 0, .ref G.2.2.2.2.2.2, .int 0])) := (cX _ _ (by simp)).trans c_1_1
                have c_1_2 : wc17p 1 2 = some (.inr (2, [.int 0, .ref G.2.2.2.2.2.2, .int 0])) := (cX _ _ (by simp)).trans c_1_2
                have c_1_3 : wc17p 1 3 = some (.inr (2, [.int 0, .ref G.2.2.2.2.2.2, .int 0])) := (cX _ _ (by simp)).trans c_1_3
                have c_1_4 : wc17p 1 4 = some (.inr (2, [.int 0, .ref G.2.2.2.2.2.2, .int 0])) := (cX _ _ (by simp)).trans c_1_4
                have a00 : wa17 0 0 = ad 0 0 := a00
                clear hC cX
                refine lv_aload_n hx hb dX7_init_89 rfl (lv_at hl 1 rfl) ?_
                refine k_new (fs := [.null, .null, .null, .int 0]) (ci := 4) (ty0 := tyX1) 12 0 Z X inlX1 tyX1_ok rfl (inU_2 _ (List.mem_of_getElem? (i := 2) rfl)) (inU_2 _ (List.mem_of_getElem? (i := 3) rfl)) (inU_2 _ (List.mem_of_getElem? (i := 4) rfl)) (fun j hj => by match j, hj with | 0, _ => rfl | 1, _ => rfl | 2, _ => rfl | 3, _ => rfl) (Nat.le_of_ble_eq_true rfl) (Nat.le_of_ble_eq_true rfl) dX7_init_90 (fun z H X => ?_)
                obtain ⟨wa18, hA⟩ : ∃ y, y = aup wa17 12 0 z := ⟨_, rfl⟩
                obtain ⟨wc18, hC⟩ : ∃ y, y = cup wc17p 12 0 (.inr (4, [.null, .null, .null, .int 0])) := ⟨_, rfl⟩
                rw [← hA, ← hC] at X
                have eN : wa18 12 0 = z := by rw [hA]; exact aup_s
                subst eN
                have eX : ∀ k i, ¬ (k = 12 ∧ i = 0) → wa18 k i = wa17 k i := fun k i h => by rw [hA]; exact aup_n h
                have cN : wc18 12 0 = some (.inr (4, [.null, .null, .null, .int 0])) := by rw [hC]; exact cup_s
                have cX : ∀ k i, ¬ (k = 12 ∧ i = 0) → wc18 k i = wc17p k i := fun k i h => by rw [hC]; exact cup_n h
                have c_0_0 : wc18 0 0 = some (.inr (10, [.ref (wa18 1 0), .ref (wa18 1 1), .ref (wa18 1 2), .ref (wa18 1 3), .ref (wa18 1 4), .null, .null, .int 0])) := by rw [(cX _ _ (by simp)), c_0_0, show wa18 1 0 = wa17 1 0 from (eX _ _ (by simp)), show wa18 1 1 = wa17 1 1 from (eX _ _ (by simp)), show wa18 1 2 = wa17 1 2 from (eX _ _ (by simp)), show wa18 1 3 = wa17 1 3 from (eX _ _ (by simp)), show wa18 1 4 = wa17 1 4 from (eX _ _ (by simp))]
                have c_1_0 : wc18 1 0 = some (.inr (2, [.int (nI 6), .ref (wa18 2 0), .int (nI 6)])) := by rw [(cX _ _ (by simp)), c_1_0, show wa18 2 0 = wa17 2 0 from (eX _ _ (by simp))]
                have F2 : wc18 2 0 = some (kOa G cap (fun j => if j < 6 then some (wa18 3 j) else none)) := by rw [(cX _ _ (by simp)), F2]; simp only [show ∀ j, wa18 3 j = wa17 3 j from fun j => (eX _ _ (by simp))]
                have F3 : ∀ j, j < 6 → wc18 3 j = some (.inr (3, [.int (nI j), .int 0, .int 0])) := fun j hj => (cX _ _ (by simp)).trans (F3 j hj)
                have F98 : wc18 98 0 = none := (cX _ _ (by simp)).trans F98
                have c_1_1 : wc18 1 1 = some (.inr (2, [.int 0, .ref G.2.2.2.2.2.2, .int 0])) := (cX _ _ (by simp)).trans c_1_1
                have c_1_2 : wc18 1 2 = some (.inr (2, [.int 0, .ref G.2.2.2.2.2.2, .int 0])) := (cX _ _ (by simp)).trans c_1_2
                have c_1_3 : wc18 1 3 = some (.inr (2, [.int 0, .ref G.2.2.2.2.2.2, .int 0])) := (cX _ _ (by simp)).trans c_1_3
                have c_1_4 : wc18 1 4 = some (.inr (2, [.int 0, .ref G.2.2.2.2.2.2, .int 0])) := (cX _ _ (by simp)).trans c_1_4
                have a00 : wa18 0 0 = ad 0 0 := (eX _ _ (by simp)).trans a00
                clear hA hC eX cX
                refine lv_dup hx hb dX7_init_93 rfl ?_
                refine k_Rv X (k_runI (As := []) (rest := [.ref (wa18 12 0), .ref (ad 0 0)]) Z X (c_X1_init l E G wa18 wc18 ⟨fun _ _ _ => rfl, cN.trans rfl, fun q hq => absurd hq (by omega), fun _ _ _ _ => rfl⟩) (k_cwI 0 Z.1.2.2.2.2 (inU_5 _ (List.mem_of_getElem? (i := 12) rfl)) (inU_5 _ (List.mem_of_getElem? (i := 13) rfl)) (inU_2 _ (List.mem_of_getElem? (i := 4) rfl)) (inU_5 _ (List.mem_of_getElem? (i := 14) rfl)) rfl rfl rfl (by decide +kernel) ⟨Nat.le_of_ble_eq_true rfl, Nat.le_of_ble_eq_true rfl⟩) rfl hl.1 rfl (Nat.le_of_ble_eq_true rfl) dX7_init_94 ⟨(by first | exact Nat.le_of_ble_eq_true rfl | (show _ ≤ (_ : Nat); simp only [headSpec]; omega)), (by first | exact Nat.le_of_ble_eq_true rfl | (show _ ≤ (_ : Nat); simp only [headSpec]; omega))⟩) (fun ad1 ct1 H locs hp X => ?_)
                obtain ⟨eX, cN2, cA, cX⟩ := hp
                refine W.eq (congrArg (fun y => F0 m 97 ls [.ref y, .ref (ad 0 0)]) (eX 12 0 (by decide)).symm) ?_
                obtain ⟨wa19, hA⟩ : ∃ y, y = ad1 := ⟨_, rfl⟩
                obtain ⟨wc19, hC⟩ : ∃ y, y = ct1 := ⟨_, rfl⟩
                rw [← hA] at eX cN2
                rw [← hC] at cN2 cA cX
                rw [← hA, ← hC] at X
                refine W.eq (congrArg (fun y => F0 m 97 ls [.ref (y 12 0), .ref (ad 0 0)]) hA.symm) ?_
                have c_0_0 : wc19 0 0 = some (.inr (10, [.ref (wa19 1 0), .ref (wa19 1 1), .ref (wa19 1 2), .ref (wa19 1 3), .ref (wa19 1 4), .null, .null, .int 0])) := by rw [(cX _ _ (by decide) (by decide)), c_0_0, show wa19 1 0 = wa18 1 0 from (eX _ _ (by decide)), show wa19 1 1 = wa18 1 1 from (eX _ _ (by decide)), show wa19 1 2 = wa18 1 2 from (eX _ _ (by decide)), show wa19 1 3 = wa18 1 3 from (eX _ _ (by decide)), show wa19 1 4 = wa18 1 4 from (eX _ _ (by decide))]
                have c_1_0 : wc19 1 0 = some (.inr (2, [.int (nI 6), .ref (wa19 2 0), .int (nI 6)])) := by rw [(cX _ _ (by decide) (by decide)), c_1_0, show wa19 2 0 = wa18 2 0 from (eX _ _ (by decide))]
                have F2 : wc19 2 0 = some (kOa G cap (fun j => if j < 6 then some (wa19 3 j) else none)) := by rw [(cX _ _ (by decide) (by decide)), F2]; simp only [show ∀ j, wa19 3 j = wa18 3 j from fun j => (eX _ _ (by decide))]
                have F3 : ∀ j, j < 6 → wc19 3 j = some (.inr (3, [.int (nI j), .int 0, .int 0])) := fun j hj => (cX _ _ (by decide) (by decide)).trans (F3 j hj)
                have F98 : wc19 98 0 = none := (cX _ _ (by decide) (by decide)).trans F98
                have c_1_1 : wc19 1 1 = some (.inr (2, [.int 0, .ref G.2.2.2.2.2.2, .int 0])) := (cX _ _ (by decide) (by decide)).trans c_1_1
                have c_1_2 : wc19 1 2 = some (.inr (2, [.int 0, .ref G.2.2.2.2.2.2, .int 0])) := (cX _ _ (by decide) (by decide)).trans c_1_2
                have c_1_3 : wc19 1 3 = some (.inr (2, [.int 0, .ref G.2.2.2.2.2.2, .int 0])) := (cX _ _ (by decide) (by decide)).trans c_1_3
                have c_1_4 : wc19 1 4 = some (.inr (2, [.int 0, .ref G.2.2.2.2.2.2, .int 0])) := (cX _ _ (by decide) (by decide)).trans c_1_4
                have a00 : wa19 0 0 = ad 0 0 := (eX _ _ (by decide)).trans a00
                have c_12_0 : wc19 12 0 = some (.inr (4, [.ref (wa19 13 0), .ref (wa19 13 1), .ref (wa19 13 2), .int 0])) := cN2
                have c_13_0 : wc19 13 0 = some (.inl (G.2.2.1, 512, .inl (fun _ => 0))) := cA 0 (by decide)
                have c_13_1 : wc19 13 1 = some (.inl (G.2.2.1, 512, .inl (fun _ => 0))) := cA 1 (by decide)
                have c_13_2 : wc19 13 2 = some (.inl (G.2.2.1, 512, .inl (fun _ => 0))) := cA 2 (by decide)
                clear cN2 cA cX eX cN hA hC
                refine W.eq (congrArg (fun y => F0 m 97 ls [.ref (wa19 12 0), .ref y]) a00.symm) ?_
                refine k_putF (index := 40) (j := 5) (k := 0) (i := 0) Z X c_0_0 inlX7 tyX7_ok nmX7 rfl (by decide) (inU_2 _ (List.mem_of_getElem? (i := 5) rfl)) rfl hin rfl (Nat.le_of_ble_eq_true rfl) rfl rfl dX7_init_97 (fun H locs X => ?_)
                obtain ⟨wc19p, hC⟩ : ∃ y, y = cup wc19 0 0 (.inr (10, [.ref (wa19 1 0), .ref (wa19 1 1), .ref (wa19 1 2), .ref (wa19 1 3), .ref (wa19 1 4), .ref (wa19 12 0), .null, .int 0])) := ⟨_, rfl⟩
                have X : kX E G s H locs wa19 wc19p := by rw [hC]; exact X
                have cX : ∀ k i, ¬ (k = 0 ∧ i = 0) → wc19p k i = wc19 k i := fun k i h => by rw [hC]; exact cup_n h
                have c_0_0 : wc19p 0 0 = some (.inr (10, [.ref (wa19 1 0), .ref (wa19 1 1), .ref (wa19 1 2), .ref (wa19 1 3), .ref (wa19 1 4), .ref (wa19 12 0), .null, .int 0])) := by rw [hC]; exact cup_s
                have c_1_0 : wc19p 1 0 = some (.inr (2, [.int (nI 6), .ref (wa19 2 0), .int (nI 6)])) := (cX _ _ (by simp)).trans c_1_0
                have F2 : wc19p 2 0 = some (kOa G cap (fun j => if j < 6 then some (wa19 3 j) else none)) := (cX _ _ (by simp)).trans F2
                have F3 : ∀ j, j < 6 → wc19p 3 j = some (.inr (3, [.int (nI j), .int 0, .int 0])) := fun j hj => (cX _ _ (by simp)).trans (F3 j hj)
                have F98 : wc19p 98 0 = none := (cX _ _ (by simp)).trans F98
                have c_1_1 : wc19p 1 1 = some (.inr (2, [.int 0, .ref G.2.2.2.2.2.2, .int 0])) := (cX _ _ (by simp)).trans c_1_1
                have c_1_2 : wc19p 1 2 = some (.inr (2, [.int 0, .ref G.2.2.2.2.2.2, .int 0])) := (cX _ _ (by simp)).trans c_1_2
                have c_1_3 : wc19p 1 3 = some (.inr (2, [.int 0, .ref G.2.2.2.2.2.2, .int 0])) := (cX _ _ (by simp)).trans c_1_3
                have c_1_4 : wc19p 1 4 = some (.inr (2, [.int 0, .ref G.2.2.2.2.2.2, .int 0])) := (cX _ _ (by simp)).trans c_1_4
                have c_13_0 : wc19p 13 0 = some (.inl (G.2.2.1, 512, .inl (fun _ => 0))) := (cX _ _ (by simp)).trans c_13_0
                have c_13_1 : wc19p 13 1 = some (.inl (G.2.2.1, 512, .inl (fun _ => 0))) := (cX _ _ (by simp)).trans c_13_1
                have c_13_2 : wc19p 13 2 = some (.inl (G.2.2.1, 512, .inl (fun _ => 0))) := (cX _ _ (by simp)).trans c_13_2
                have c_12_0 : wc19p 12 0 = some (.inr (4, [.ref (wa19 13 0), .ref (wa19 13 1), .ref (wa19 13 2), .int 0])) := (cX _ _ (by simp)).trans c_12_0
                have a00 : wa19 0 0 = ad 0 0 := a00
                clear hC cX
                refine lv_aload_n hx hb dX7_init_100 rfl (lv_at hl 1 rfl) ?_
                refine k_new (fs := [.null]) (ci := 5) (ty0 := tyX2) 14 0 Z X inlX2 tyX2_ok rfl (inU_2 _ (List.mem_of_getElem? (i := 6) rfl)) (inU_2 _ (List.mem_of_getElem? (i := 7) rfl)) (inU_2 _ (List.mem_of_getElem? (i := 8) rfl)) (fun j hj => by match j, hj with | 0, _ => rfl) (Nat.le_of_ble_eq_true rfl) (Nat.le_of_ble_eq_true rfl) dX7_init_101 (fun z H X => ?_)
                obtain ⟨wa20, hA⟩ : ∃ y, y = aup wa19 14 0 z := ⟨_, rfl⟩
                obtain ⟨wc20, hC⟩ : ∃ y, y = cup wc19p 14 0 (.inr (5, [.null])) := ⟨_, rfl⟩
                rw [← hA, ← hC] at X
                have eN : wa20 14 0 = z := by rw [hA]; exact aup_s
                subst eN
                have eX : ∀ k i, ¬ (k = 14 ∧ i = 0) → wa20 k i = wa19 k i := fun k i h => by rw [hA]; exact aup_n h
                have cN : wc20 14 0 = some (.inr (5, [.null])) := by rw [hC]; exact cup_s
                have cX : ∀ k i, ¬ (k = 14 ∧ i = 0) → wc20 k i = wc19p k i := fun k i h => by rw [hC]; exact cup_n h
                have c_0_0 : wc20 0 0 = some (.inr (10, [.ref (wa20 1 0), .ref (wa20 1 1), .ref (wa20 1 2), .ref (wa20 1 3), .ref (wa20 1 4), .ref (wa20 12 0), .null, .int 0])) := by rw [(cX _ _ (by simp)), c_0_0, show wa20 1 0 = wa19 1 0 from (eX _ _ (by simp)), show wa20 1 1 = wa19 1 1 from (eX _ _ (by simp)), show wa20 1 2 = wa19 1 2 from (eX _ _ (by simp)), show wa20 1 3 = wa19 1 3 from (eX _ _ (by simp)), show wa20 1 4 = wa19 1 4 from (eX _ _ (by simp)), show wa20 12 0 = wa19 12 0 from (eX _ _ (by simp))]
                have c_1_0 : wc20 1 0 = some (.inr (2, [.int (nI 6), .ref (wa20 2 0), .int (nI 6)])) := by rw [(cX _ _ (by simp)), c_1_0, show wa20 2 0 = wa19 2 0 from (eX _ _ (by simp))]
                have F2 : wc20 2 0 = some (kOa G cap (fun j => if j < 6 then some (wa20 3 j) else none)) := by rw [(cX _ _ (by simp)), F2]; simp only [show ∀ j, wa20 3 j = wa19 3 j from fun j => (eX _ _ (by simp))]
                have F3 : ∀ j, j < 6 → wc20 3 j = some (.inr (3, [.int (nI j), .int 0, .int 0])) := fun j hj => (cX _ _ (by simp)).trans (F3 j hj)
                have F98 : wc20 98 0 = none := (cX _ _ (by simp)).trans F98
                have c_1_1 : wc20 1 1 = some (.inr (2, [.int 0, .ref G.2.2.2.2.2.2, .int 0])) := (cX _ _ (by simp)).trans c_1_1
                have c_1_2 : wc20 1 2 = some (.inr (2, [.int 0, .ref G.2.2.2.2.2.2, .int 0])) := (cX _ _ (by simp)).trans c_1_2
                have c_1_3 : wc20 1 3 = some (.inr (2, [.int 0, .ref G.2.2.2.2.2.2, .int 0])) := (cX _ _ (by simp)).trans c_1_3
                have c_1_4 : wc20 1 4 = some (.inr (2, [.int 0, .ref G.2.2.2.2.2.2, .int 0])) := (cX _ _ (by simp)).trans c_1_4
                have c_13_0 : wc20 13 0 = some (.inl (G.2.2.1, 512, .inl (fun _ => 0))) := (cX _ _ (by simp)).trans c_13_0
                have c_13_1 : wc20 13 1 = some (.inl (G.2.2.1, 512, .inl (fun _ => 0))) := (cX _ _ (by simp)).trans c_13_1
                have c_13_2 : wc20 13 2 = some (.inl (G.2.2.1, 512, .inl (fun _ => 0))) := (cX _ _ (by simp)).trans c_13_2
                have c_12_0 : wc20 12 0 = some (.inr (4, [.ref (wa20 13 0), .ref (wa20 13 1), .ref (wa20 13 2), .int 0])) := by rw [(cX _ _ (by simp)), c_12_0, show wa20 13 0 = wa19 13 0 from (eX _ _ (by simp)), show wa20 13 1 = wa19 13 1 from (eX _ _ (by simp)), show wa20 13 2 = wa19 13 2 from (eX _ _ (by simp))]
                have a00 : wa20 0 0 = ad 0 0 := (eX _ _ (by simp)).trans a00
                clear hA hC eX cX
                refine lv_dup hx hb dX7_init_104 rfl ?_
                refine k_Rv X (k_runI (As := []) (rest := [.ref (wa20 14 0), .ref (ad 0 0)]) Z X (c_X2_init l E G wa20 wc20 14 0 15 0 (by decide) cN) (k_cwI 0 Z.1.2.2.2.2 (inU_5 _ (List.mem_of_getElem? (i := 19) rfl)) (inU_5 _ (List.mem_of_getElem? (i := 20) rfl)) (inU_2 _ (List.mem_of_getElem? (i := 8) rfl)) (inU_5 _ (List.mem_of_getElem? (i := 21) rfl)) rfl rfl rfl (by decide +kernel) ⟨Nat.le_of_ble_eq_true rfl, Nat.le_of_ble_eq_true rfl⟩) rfl hl.1 rfl (Nat.le_of_ble_eq_true rfl) dX7_init_105 ⟨(by first | exact Nat.le_of_ble_eq_true rfl | (show _ ≤ (_ : Nat); simp only [headSpec]; omega)), (by first | exact Nat.le_of_ble_eq_true rfl | (show _ ≤ (_ : Nat); simp only [headSpec]; omega))⟩) (fun ad1 ct1 H locs hp X => ?_)
                obtain ⟨z2, hp1, hp2⟩ := hp
                obtain ⟨wa21, hA⟩ : ∃ y, y = ad1 := ⟨_, rfl⟩
                obtain ⟨wc21, hC⟩ : ∃ y, y = ct1 := ⟨_, rfl⟩
                rw [← hA] at hp1
                rw [← hC] at hp2
                rw [← hA, ← hC] at X
                have eX : ∀ k i, ¬ (k = 15 ∧ i = 0) → wa21 k i = wa20 k i := fun k i h => by rw [hp1]; exact aup_n h
                have cX : ∀ k i, ¬ (k = 15 ∧ i = 0) → ¬ (k = 14 ∧ i = 0) → wc21 k i = wc20 k i := fun k i h1 h2 => by rw [hp2]; exact (cup_n h2).trans (cup_n h1)
                refine W.eq (congrArg (fun y => F0 m 108 ls [.ref y, .ref (ad 0 0)]) (eX 14 0 (by decide)).symm) ?_
                have c_14_0 : wc21 14 0 = some (.inr (5, [.ref (wa21 15 0)])) := by rw [hp2, cup_s, hp1, aup_s]
                have c_15_0 : wc21 15 0 = some (.inl (G.2.2.1, 12, .inl (fun q => if q < 12 then -1 else 0))) := by rw [hp2]; exact (cup_n (by simp)).trans cup_s
                have c_0_0 : wc21 0 0 = some (.inr (10, [.ref (wa21 1 0), .ref (wa21 1 1), .ref (wa21 1 2), .ref (wa21 1 3), .ref (wa21 1 4), .ref (wa21 12 0), .null, .int 0])) := by rw [(cX _ _ (by simp) (by simp)), c_0_0, show wa21 1 0 = wa20 1 0 from (eX _ _ (by simp)), show wa21 1 1 = wa20 1 1 from (eX _ _ (by simp)), show wa21 1 2 = wa20 1 2 from (eX _ _ (by simp)), show wa21 1 3 = wa20 1 3 from (eX _ _ (by simp)), show wa21 1 4 = wa20 1 4 from (eX _ _ (by simp)), show wa21 12 0 = wa20 12 0 from (eX _ _ (by simp))]
                have c_1_0 : wc21 1 0 = some (.inr (2, [.int (nI 6), .ref (wa21 2 0), .int (nI 6)])) := by rw [(cX _ _ (by simp) (by simp)), c_1_0, show wa21 2 0 = wa20 2 0 from (eX _ _ (by simp))]
                have F2 : wc21 2 0 = some (kOa G cap (fun j => if j < 6 then some (wa21 3 j) else none)) := by rw [(cX _ _ (by simp) (by simp)), F2]; simp only [show ∀ j, wa21 3 j = wa20 3 j from fun j => (eX _ _ (by simp))]
                have F3 : ∀ j, j < 6 → wc21 3 j = some (.inr (3, [.int (nI j), .int 0, .int 0])) := fun j hj => (cX _ _ (by simp) (by simp)).trans (F3 j hj)
                have F98 : wc21 98 0 = none := (cX _ _ (by simp) (by simp)).trans F98
                have c_1_1 : wc21 1 1 = some (.inr (2, [.int 0, .ref G.2.2.2.2.2.2, .int 0])) := (cX _ _ (by simp) (by simp)).trans c_1_1
                have c_1_2 : wc21 1 2 = some (.inr (2, [.int 0, .ref G.2.2.2.2.2.2, .int 0])) := (cX _ _ (by simp) (by simp)).trans c_1_2
                have c_1_3 : wc21 1 3 = some (.inr (2, [.int 0, .ref G.2.2.2.2.2.2, .int 0])) := (cX _ _ (by simp) (by simp)).trans c_1_3
                have c_1_4 : wc21 1 4 = some (.inr (2, [.int 0, .ref G.2.2.2.2.2.2, .int 0])) := (cX _ _ (by simp) (by simp)).trans c_1_4
                have c_13_0 : wc21 13 0 = some (.inl (G.2.2.1, 512, .inl (fun _ => 0))) := (cX _ _ (by simp) (by simp)).trans c_13_0
                have c_13_1 : wc21 13 1 = some (.inl (G.2.2.1, 512, .inl (fun _ => 0))) := (cX _ _ (by simp) (by simp)).trans c_13_1
                have c_13_2 : wc21 13 2 = some (.inl (G.2.2.1, 512, .inl (fun _ => 0))) := (cX _ _ (by simp) (by simp)).trans c_13_2
                have c_12_0 : wc21 12 0 = some (.inr (4, [.ref (wa21 13 0), .ref (wa21 13 1), .ref (wa21 13 2), .int 0])) := by rw [(cX _ _ (by simp) (by simp)), c_12_0, show wa21 13 0 = wa20 13 0 from (eX _ _ (by simp)), show wa21 13 1 = wa20 13 1 from (eX _ _ (by simp)), show wa21 13 2 = wa20 13 2 from (eX _ _ (by simp))]
                have a00 : wa21 0 0 = ad 0 0 := (eX _ _ (by simp)).trans a00
                clear cX eX cN hA hC hp1 hp2
                refine W.eq (congrArg (fun y => F0 m 108 ls [.ref (wa21 14 0), .ref y]) a00.symm) ?_
                refine k_putF (index := 47) (j := 6) (k := 0) (i := 0) Z X c_0_0 inlX7 tyX7_ok nmX7 rfl (by decide) (inU_2 _ (List.mem_of_getElem? (i := 9) rfl)) rfl hin rfl (Nat.le_of_ble_eq_true rfl) rfl rfl dX7_init_108 (fun H locs X => ?_)
                obtain ⟨wc21p, hC⟩ : ∃ y, y = cup wc21 0 0 (.inr (10, [.ref (wa21 1 0), .ref (wa21 1 1), .ref (wa21 1 2), .ref (wa21 1 3), .ref (wa21 1 4), .ref (wa21 12 0), .ref (wa21 14 0), .int 0])) := ⟨_, rfl⟩
                have X : kX E G s H locs wa21 wc21p := by rw [hC]; exact X
                have cX : ∀ k i, ¬ (k = 0 ∧ i = 0) → wc21p k i = wc21 k i := fun k i h => by rw [hC]; exact cup_n h
                have c_0_0 : wc21p 0 0 = some (.inr (10, [.ref (wa21 1 0), .ref (wa21 1 1), .ref (wa21 1 2), .ref (wa21 1 3), .ref (wa21 1 4), .ref (wa21 12 0), .ref (wa21 14 0), .int 0])) := by rw [hC]; exact cup_s
                have c_1_0 : wc21p 1 0 = some (.inr (2, [.int (nI 6), .ref (wa21 2 0), .int (nI 6)])) := (cX _ _ (by simp)).trans c_1_0
                have F2 : wc21p 2 0 = some (kOa G cap (fun j => if j < 6 then some (wa21 3 j) else none)) := (cX _ _ (by simp)).trans F2
                have F3 : ∀ j, j < 6 → wc21p 3 j = some (.inr (3, [.int (nI j), .int 0, .int 0])) := fun j hj => (cX _ _ (by simp)).trans (F3 j hj)
                have F98 : wc21p 98 0 = none := (cX _ _ (by simp)).trans F98
                have c_1_1 : wc21p 1 1 = some (.inr (2, [.int 0, .ref G.2.2.2.2.2.2, .int 0])) := (cX _ _ (by simp)).trans c_1_1
                have c_1_2 : wc21p 1 2 = some (.inr (2, [.int 0, .ref G.2.2.2.2.2.2, .int 0])) := (cX _ _ (by simp)).trans c_1_2
                have c_1_3 : wc21p 1 3 = some (.inr (2, [.int 0, .ref G.2.2.2.2.2.2, .int 0])) := (cX _ _ (by simp)).trans c_1_3
                have c_1_4 : wc21p 1 4 = some (.inr (2, [.int 0, .ref G.2.2.2.2.2.2, .int 0])) := (cX _ _ (by simp)).trans c_1_4
                have c_13_0 : wc21p 13 0 = some (.inl (G.2.2.1, 512, .inl (fun _ => 0))) := (cX _ _ (by simp)).trans c_13_0
                have c_13_1 : wc21p 13 1 = some (.inl (G.2.2.1, 512, .inl (fun _ => 0))) := (cX _ _ (by simp)).trans c_13_1
                have c_13_2 : wc21p 13 2 = some (.inl (G.2.2.1, 512, .inl (fun _ => 0))) := (cX _ _ (by simp)).trans c_13_2
                have c_12_0 : wc21p 12 0 = some (.inr (4, [.ref (wa21 13 0), .ref (wa21 13 1), .ref (wa21 13 2), .int 0])) := (cX _ _ (by simp)).trans c_12_0
                have c_14_0 : wc21p 14 0 = some (.inr (5, [.ref (wa21 15 0)])) := (cX _ _ (by simp)).trans c_14_0
                have c_15_0 : wc21p 15 0 = some (.inl (G.2.2.1, 12, .inl (fun q => if q < 12 then -1 else 0))) := (cX _ _ (by simp)).trans c_15_0
                have a00 : wa21 0 0 = ad 0 0 := a00
                clear hC cX
                refine lv_aload_n hx hb dX7_init_111 rfl (lv_at hl 1 rfl) ?_
                refine lv_iconst (v := 0) hx hb dX7_init_112 (by decide) ?_
                refine W.eq (congrArg (fun y => F0 m 113 ls [.int 0, .ref y]) a00.symm) ?_
                refine k_put (index := 51) (j := 7) (k := 0) (i := 0) Z X c_0_0 inlX7 tyX7_ok nmX7 rfl (by decide) (inU_2 _ (List.mem_of_getElem? (i := 10) rfl)) (fun _ h => h) rfl (Nat.le_of_ble_eq_true rfl) rfl rfl dX7_init_113 (fun H locs X => ?_)
                obtain ⟨wc21q, hC⟩ : ∃ y, y = cup wc21p 0 0 (.inr (10, [.ref (wa21 1 0), .ref (wa21 1 1), .ref (wa21 1 2), .ref (wa21 1 3), .ref (wa21 1 4), .ref (wa21 12 0), .ref (wa21 14 0), .int 0])) := ⟨_, rfl⟩
                have X : kX E G s H locs wa21 wc21q := by rw [hC]; exact X
                have cX : ∀ k i, ¬ (k = 0 ∧ i = 0) → wc21q k i = wc21p k i := fun k i h => by rw [hC]; exact cup_n h
                have c_0_0 : wc21q 0 0 = some (.inr (10, [.ref (wa21 1 0), .ref (wa21 1 1), .ref (wa21 1 2), .ref (wa21 1 3), .ref (wa21 1 4), .ref (wa21 12 0), .ref (wa21 14 0), .int 0])) := by rw [hC]; exact cup_s
                have c_1_0 : wc21q 1 0 = some (.inr (2, [.int (nI 6), .ref (wa21 2 0), .int (nI 6)])) := (cX _ _ (by simp)).trans c_1_0
                have F2 : wc21q 2 0 = some (kOa G cap (fun j => if j < 6 then some (wa21 3 j) else none)) := (cX _ _ (by simp)).trans F2
                have F3 : ∀ j, j < 6 → wc21q 3 j = some (.inr (3, [.int (nI j), .int 0, .int 0])) := fun j hj => (cX _ _ (by simp)).trans (F3 j hj)
                have F98 : wc21q 98 0 = none := (cX _ _ (by simp)).trans F98
                have c_1_1 : wc21q 1 1 = some (.inr (2, [.int 0, .ref G.2.2.2.2.2.2, .int 0])) := (cX _ _ (by simp)).trans c_1_1
                have c_1_2 : wc21q 1 2 = some (.inr (2, [.int 0, .ref G.2.2.2.2.2.2, .int 0])) := (cX _ _ (by simp)).trans c_1_2
                have c_1_3 : wc21q 1 3 = some (.inr (2, [.int 0, .ref G.2.2.2.2.2.2, .int 0])) := (cX _ _ (by simp)).trans c_1_3
                have c_1_4 : wc21q 1 4 = some (.inr (2, [.int 0, .ref G.2.2.2.2.2.2, .int 0])) := (cX _ _ (by simp)).trans c_1_4
                have c_13_0 : wc21q 13 0 = some (.inl (G.2.2.1, 512, .inl (fun _ => 0))) := (cX _ _ (by simp)).trans c_13_0
                have c_13_1 : wc21q 13 1 = some (.inl (G.2.2.1, 512, .inl (fun _ => 0))) := (cX _ _ (by simp)).trans c_13_1
                have c_13_2 : wc21q 13 2 = some (.inl (G.2.2.1, 512, .inl (fun _ => 0))) := (cX _ _ (by simp)).trans c_13_2
                have c_12_0 : wc21q 12 0 = some (.inr (4, [.ref (wa21 13 0), .ref (wa21 13 1), .ref (wa21 13 2), .int 0])) := (cX _ _ (by simp)).trans c_12_0
                have c_14_0 : wc21q 14 0 = some (.inr (5, [.ref (wa21 15 0)])) := (cX _ _ (by simp)).trans c_14_0
                have c_15_0 : wc21q 15 0 = some (.inl (G.2.2.1, 12, .inl (fun q => if q < 12 then -1 else 0))) := (cX _ _ (by simp)).trans c_15_0
                have a00 : wa21 0 0 = ad 0 0 := a00
                clear hC cX
                have fin : p7 G T o ad wa21 wc21q := by
                  refine ⟨a00, cap, ⟨by omega, p1, p3⟩, fun k i e hk he => ?_⟩
                  match k, hk with
                  | 0, _ => simp only [cto] at he; split at he <;> first | (rename_i hi; subst hi; rw [← he]; exact c_0_0) | cases he
                  | 1, _ => simp only [cto] at he; split at he <;> first | (rename_i hi; rw [← he]; match i, hi with | 0, _ => rw [c_1_0]; simp [kS0, lcnt, show ¬ cap = 0 by omega]; try rfl | 1, _ => rw [c_1_1]; rfl | 2, _ => rw [c_1_2]; rfl | 3, _ => rw [c_1_3]; rfl | 4, _ => rw [c_1_4]; rfl) | cases he
                  | 2, _ => simp only [cto] at he; split at he <;> first | (rename_i hi; obtain ⟨h1, h2⟩ := hi; match i, h1 with | 0, _ => rw [← he, F2]; simp [kS0, lcnt, lknd] | j + 1, _ => exact absurd (by simp [kS0]) h2) | cases he
                  | 3, _ => simp only [cto] at he; split at he <;> first | (rename_i hi; rw [← he]; exact F3 i hi) | cases he
                  | 4, _ => simp only [cto] at he; split at he <;> first | (rename_i hi; exact absurd (show i < 0 from hi) (Nat.not_lt_zero i)) | cases he
                  | 5, _ => simp only [cto] at he; split at he <;> first | (rename_i hi; exact absurd (show i < 0 from hi) (Nat.not_lt_zero i)) | cases he
                  | 6, _ => simp only [cto] at he; split at he <;> first | (rename_i hi; exact absurd (show i < 0 from hi) (Nat.not_lt_zero i)) | cases he
                  | 7, _ => simp only [cto] at he; split at he <;> first | (rename_i hi; exact absurd (show i < 0 from hi) (Nat.not_lt_zero i)) | cases he
                  | 8, _ => simp only [cto] at he; split at he <;> first | (rename_i hi; exact absurd (show i < 0 from hi) (Nat.not_lt_zero i)) | cases he
                  | 9, _ => simp only [cto] at he; split at he <;> first | (rename_i hi; exact absurd (show i < 0 from hi) (Nat.not_lt_zero i)) | cases he
                  | 10, _ => simp only [cto] at he; split at he <;> first | (rename_i hi; exact absurd (show i < 0 from hi) (Nat.not_lt_zero i)) | cases he
                  | 11, _ => simp only [cto] at he; split at he <;> first | (rename_i hi; exact absurd (show i < 0 from hi) (Nat.not_lt_zero i)) | cases he
                  | 12, _ => simp only [cto] at he; split at he <;> first | (rename_i hi; subst hi; rw [← he]; exact c_12_0) | cases he
                  | 13, _ => simp only [cto] at he; split at he <;> first | (rename_i hi; rw [← he]; match i, hi with | 0, _ => rw [c_13_0]; rfl | 1, _ => rw [c_13_1]; rfl | 2, _ => rw [c_13_2]; rfl) | cases he
                  | 14, _ => simp only [cto] at he; split at he <;> first | (rename_i hi; subst hi; rw [← he]; exact c_14_0) | cases he
                  | 15, _ => simp only [cto] at he; split at he <;> first | (rename_i hi; subst hi; rw [← he]; exact c_15_0) | cases he
                  | k + 16, hk => exact absurd hk (by omega)
                exact k_vret Z X hr hlocks (Nat.le_of_ble_eq_true rfl) (Nat.le_of_ble_eq_true rfl) dX7_init_116 fin
              · exact absurd c_20 (by decide)
