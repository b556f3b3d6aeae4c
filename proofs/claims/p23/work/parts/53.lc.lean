/-! THE LAW'S settles -/
theorem fn2 {S : kSt} {f i f' i' g : Nat} {v v' : Int32} (h : g ≠ f ∧ g ≠ f') : (sI (sI S f i v) f' i' v').1 g = S.1 g := (sI_fn h.2).trans (sI_fn h.1)
theorem kdS_stl {S : kSt} {kd : Nat → Nat → Int32} {n : Nat} : kdS (stl S kd n) = kdS S := kdS_f (fun m => stl_1 (by omega))
theorem encs_12 {M : kSt} {i : Nat} (h : M.1 12 i = 0) {c : Nat} {x : Int32} : encs (sI (sI M 12 i 1) 3 c x) i = encs M i + 65536 := by
  unfold encs
  rw [show (sI (sI M 12 i 1) 3 c x).1 10 = M.1 10 from fn2 (by decide), show (sI (sI M 12 i 1) 3 c x).1 12 i = 1 from (sI_f (by decide)).trans sI_s, h]
  show M.2 3 i + 64 * _ + 65536 * 1 = M.2 3 i + 64 * _ + 65536 * 0 + 65536
  omega
theorem LT.back {M A : kSt} (h : LT M A) (hN : okN M) {i : Nat} (hi : i < M.2 0 2) (h12 : M.1 12 i = 0) : LT (sI (sI M 12 i 1) 3 (M.2 2 (M.2 3 i)) (M.1 3 (M.2 2 (M.2 3 i)) + M.1 11 i)) (sI (sI A 7 i (nI (encs M i + 65536))) 6 (M.2 2 (M.2 3 i)) (M.1 3 (M.2 2 (M.2 3 i)) + M.1 11 i)) := by
  obtain ⟨hg, hn, hu, hm, hz, hb, hs, ht⟩ := h
  have hc : M.2 2 (M.2 3 i) < 6 := (hN.2.2.2.2.1 _ (hN.2.2.2.2.2.1 i hi)).2
  generalize M.2 2 (M.2 3 i) = c at hc ⊢
  refine ⟨hg.c ((sI_f (by decide)).trans (sI_f (by decide))) rfl (fun j _ => (sI_f (by decide)).trans (sI_f (by decide))), hn.c rfl, hu.c rfl (fn2 (by decide)) (fn2 (by decide)) (fn2 (by decide)), hm.c rfl rfl rfl (fn2 (by decide)) (fn2 (by decide)) (fn2 (by decide)) (fn2 (by decide)) ((kdS_sI (by decide)).trans (kdS_sI (by decide))) (fn2 (by decide)) (fn2 (by decide)) (fn2 (by decide)) (fn2 (by decide)), hz.c (Nat.le_refl _) (fn2 (by decide)) (fn2 (by decide)), fun j hj => ?_, fun j hj => ?_, ht.c rfl rfl rfl (fn2 (by decide)) (fn2 (by decide)) (fn2 (by decide)) (fn2 (by decide)) (fn2 (by decide))⟩
  · obtain ⟨b1, b2, b3⟩ := hb j hj
    rw [show (sI (sI M 12 i 1) 3 c (M.1 3 c + M.1 11 i)).1 4 = M.1 4 from fn2 (by decide)]
    refine ⟨?_, ?_, b3⟩
    · by_cases e : j = c
      · rw [e, sI_s, sI_s]
      · rw [sI_n e, sI_n e, sI_f (by decide), sI_f (by decide)]; exact b1
    · rw [sI_n (by omega), sI_f (by decide)]; exact b2
  · obtain ⟨s1, s2, s3, s4⟩ := hs j hj
    rw [show (sI (sI M 12 i 1) 3 c (M.1 3 c + M.1 11 i)).1 10 = M.1 10 from fn2 (by decide), show (sI (sI M 12 i 1) 3 c (M.1 3 c + M.1 11 i)).1 11 = M.1 11 from fn2 (by decide), show (sI (sI A 7 i (nI (encs M i + 65536))) 6 c (M.1 3 c + M.1 11 i)).1 8 = A.1 8 from fn2 (by decide)]
    by_cases e : j = i
    · subst e
      refine ⟨?_, s2, s3, ?_⟩
      · rw [encs_12 h12, sI_f (by decide), sI_s]
      · rw [sI_f (by decide), sI_s]; exact Or.inr rfl
    · refine ⟨?_, s2, s3, ?_⟩
      · rw [sI_f (by decide), sI_n e, s1]
        unfold encs
        rw [show (sI (sI M 12 i 1) 3 c (M.1 3 c + M.1 11 i)).1 10 = M.1 10 from fn2 (by decide), show (sI (sI M 12 i 1) 3 c (M.1 3 c + M.1 11 i)).1 12 j = M.1 12 j from (sI_f (by decide)).trans (sI_n e)]
        rfl
      · rw [sI_f (by decide), sI_n e]; exact s4
theorem stl1_no {S : kSt} {kd : Nat → Nat → Int32} {k : Nat} (h : S.1 12 k ≠ 0 ∨ (S.1 7 (S.2 3 k) = S.1 10 k ∧ appr S (kd (S.2 3 k)) (S.2 1 (S.2 3 k)) (S.2 0 0) (S.1 11 k) = true)) : stl1 S kd k = S := by
  unfold stl1
  rw [if_neg]
  rintro ⟨h1, h2⟩
  rcases h with h | h
  · exact h h1
  · exact h2 h
theorem stl1_yes {S : kSt} {kd : Nat → Nat → Int32} {k : Nat} (h0 : S.1 12 k = 0) (h : ¬ (S.1 7 (S.2 3 k) = S.1 10 k ∧ appr S (kd (S.2 3 k)) (S.2 1 (S.2 3 k)) (S.2 0 0) (S.1 11 k) = true)) : stl1 S kd k = sI (sI S 12 k 1) 3 (S.2 2 (S.2 3 k)) (S.1 3 (S.2 2 (S.2 3 k)) + S.1 11 k) := by
  unfold stl1
  rw [if_pos ⟨h0, h⟩]
theorem dL_settles_0 : decode cL_settles 0 = .ok (.iconst 0, 1) := by decide +kernel
theorem dL_settles_1 : decode cL_settles 1 = .ok (.istore 8, 2) := by decide +kernel
theorem dL_settles_3 : decode cL_settles 3 = .ok (.iload 8, 2) := by decide +kernel
theorem dL_settles_5 : decode cL_settles 5 = .ok (.aload 7, 2) := by decide +kernel
theorem dL_settles_7 : decode cL_settles 7 = .ok (.iconst 3, 1) := by decide +kernel
theorem dL_settles_8 : decode cL_settles 8 = .ok (.iaload, 1) := by decide +kernel
theorem dL_settles_9 : decode cL_settles 9 = .ok (.if_icmp .ge 93, 3) := by decide +kernel
theorem dL_settles_12 : decode cL_settles 12 = .ok (.aload 5, 2) := by decide +kernel
theorem dL_settles_14 : decode cL_settles 14 = .ok (.iload 8, 2) := by decide +kernel
theorem dL_settles_16 : decode cL_settles 16 = .ok (.iaload, 1) := by decide +kernel
theorem dL_settles_17 : decode cL_settles 17 = .ok (.bipush 64, 2) := by decide +kernel
theorem dL_settles_19 : decode cL_settles 19 = .ok (.irem, 1) := by decide +kernel
theorem dL_settles_20 : decode cL_settles 20 = .ok (.istore 9, 2) := by decide +kernel
theorem dL_settles_22 : decode cL_settles 22 = .ok (.aload 5, 2) := by decide +kernel
theorem dL_settles_24 : decode cL_settles 24 = .ok (.iload 8, 2) := by decide +kernel
theorem dL_settles_26 : decode cL_settles 26 = .ok (.iaload, 1) := by decide +kernel
theorem dL_settles_27 : decode cL_settles 27 = .ok (.ldc 89, 2) := by decide +kernel
theorem dL_settles_29 : decode cL_settles 29 = .ok (.if_icmp .ge 67, 3) := by decide +kernel
theorem dL_settles_32 : decode cL_settles 32 = .ok (.aload 5, 2) := by decide +kernel
theorem dL_settles_34 : decode cL_settles 34 = .ok (.iload 8, 2) := by decide +kernel
theorem dL_settles_36 : decode cL_settles 36 = .ok (.iaload, 1) := by decide +kernel
theorem dL_settles_37 : decode cL_settles 37 = .ok (.bipush 64, 2) := by decide +kernel
theorem dL_settles_39 : decode cL_settles 39 = .ok (.idiv, 1) := by decide +kernel
theorem dL_settles_40 : decode cL_settles 40 = .ok (.aload_n 2, 1) := by decide +kernel
theorem dL_settles_41 : decode cL_settles 41 = .ok (.iload 9, 2) := by decide +kernel
theorem dL_settles_43 : decode cL_settles 43 = .ok (.iaload, 1) := by decide +kernel
theorem dL_settles_44 : decode cL_settles 44 = .ok (.if_icmp .ne 21, 3) := by decide +kernel
theorem dL_settles_47 : decode cL_settles 47 = .ok (.aload_n 0, 1) := by decide +kernel
theorem dL_settles_48 : decode cL_settles 48 = .ok (.aload_n 1, 1) := by decide +kernel
theorem dL_settles_49 : decode cL_settles 49 = .ok (.aload_n 3, 1) := by decide +kernel
theorem dL_settles_50 : decode cL_settles 50 = .ok (.aload 7, 2) := by decide +kernel
theorem dL_settles_52 : decode cL_settles 52 = .ok (.iload 9, 2) := by decide +kernel
theorem dL_settles_54 : decode cL_settles 54 = .ok (.aload 6, 2) := by decide +kernel
theorem dL_settles_56 : decode cL_settles 56 = .ok (.iload 8, 2) := by decide +kernel
theorem dL_settles_58 : decode cL_settles 58 = .ok (.iaload, 1) := by decide +kernel
theorem dL_settles_59 : decode cL_settles 59 = .ok (.invokestatic 90, 3) := by decide +kernel
theorem dL_settles_62 : decode cL_settles 62 = .ok (.ifCond .ne 34, 3) := by decide +kernel
theorem dL_settles_65 : decode cL_settles 65 = .ok (.aload 5, 2) := by decide +kernel
theorem dL_settles_67 : decode cL_settles 67 = .ok (.iload 8, 2) := by decide +kernel
theorem dL_settles_69 : decode cL_settles 69 = .ok (.dup2, 1) := by decide +kernel
theorem dL_settles_70 : decode cL_settles 70 = .ok (.iaload, 1) := by decide +kernel
theorem dL_settles_71 : decode cL_settles 71 = .ok (.ldc 89, 2) := by decide +kernel
theorem dL_settles_73 : decode cL_settles 73 = .ok (.iadd, 1) := by decide +kernel
theorem dL_settles_74 : decode cL_settles 74 = .ok (.iastore, 1) := by decide +kernel
theorem dL_settles_75 : decode cL_settles 75 = .ok (.aload 4, 2) := by decide +kernel
theorem dL_settles_77 : decode cL_settles 77 = .ok (.aload_n 1, 1) := by decide +kernel
theorem dL_settles_78 : decode cL_settles 78 = .ok (.iload 9, 2) := by decide +kernel
theorem dL_settles_80 : decode cL_settles 80 = .ok (.iaload, 1) := by decide +kernel
theorem dL_settles_81 : decode cL_settles 81 = .ok (.bipush 16, 2) := by decide +kernel
theorem dL_settles_83 : decode cL_settles 83 = .ok (.idiv, 1) := by decide +kernel
theorem dL_settles_84 : decode cL_settles 84 = .ok (.bipush 8, 2) := by decide +kernel
theorem dL_settles_86 : decode cL_settles 86 = .ok (.irem, 1) := by decide +kernel
theorem dL_settles_87 : decode cL_settles 87 = .ok (.dup2, 1) := by decide +kernel
theorem dL_settles_88 : decode cL_settles 88 = .ok (.iaload, 1) := by decide +kernel
theorem dL_settles_89 : decode cL_settles 89 = .ok (.aload 6, 2) := by decide +kernel
theorem dL_settles_91 : decode cL_settles 91 = .ok (.iload 8, 2) := by decide +kernel
theorem dL_settles_93 : decode cL_settles 93 = .ok (.iaload, 1) := by decide +kernel
theorem dL_settles_94 : decode cL_settles 94 = .ok (.iadd, 1) := by decide +kernel
theorem dL_settles_95 : decode cL_settles 95 = .ok (.iastore, 1) := by decide +kernel
theorem dL_settles_96 : decode cL_settles 96 = .ok (.iinc 8 1, 3) := by decide +kernel
theorem dL_settles_99 : decode cL_settles 99 = .ok (.goto (-96), 3) := by decide +kernel
theorem dL_settles_102 : decode cL_settles 102 = .ok (.return_, 1) := by decide +kernel
set_option maxHeartbeats 4000000 in
set_option maxRecDepth 100000 in
theorem c_L_settles (l : Launch) (E : State) (G : kG) (S T : kSt) (o : Int64) (ad : kAd) (M : kSt) (hT : LT M T) (hN : okN M) : Met l yL_settles (.code yL_settles cL_settles 10 none :: wsL_law) ({ frames := 6, cells := 0, slots := 0, locals := 180 } : Room) (va_Pc [.ref (ad 17 0), .ref (ad 17 1), .ref (ad 17 2), .ref (ad 17 4), .ref (ad 17 5), .ref (ad 17 6), .ref (ad 17 7), .ref (ad 17 10)] (kPre E G ad (cto G S T o ad))) (kQv E G (fun ad1 ct1 => ad = ad1 ∧ ∃ T1, ct1 = cto G S T1 o ad ∧ LT (stl M (kdS M) (M.2 0 2)) T1 ∧ T1.1 11 = T.1 11)) 0 0 (kB E.heap.size) := by
  refine Met.ofW (cc := cL_settles) (maxL := 10) (ret := none) (by decide) rfl ?_
  intro p e s m args below meth c s₁ B hml hv
  obtain ⟨rfl, hM, hK, hW0⟩ := hv
  have hlocks := B.notSynchronized
  have hr := B.returns
  have Z : kZ p m c cL_settles 10 s _ wsL_law RL E G := ⟨⟨B.exec, B.bytes, hml, findClass_of_methodNamed B.named, fun w h => atoms_spec (ws := .code yL_settles cL_settles 10 none :: wsL_law) B.pre w (List.mem_cons_of_mem _ h)⟩, hM, hK⟩
  have hx := Z.1.1
  have hb := Z.1.2.1
  have X := kX.of hW0
  have hl := lv_entry ([.ref (ad 17 0), .ref (ad 17 1), .ref (ad 17 2), .ref (ad 17 4), .ref (ad 17 5), .ref (ad 17 6), .ref (ad 17 7), .ref (ad 17 10)]) (n := 10) (Nat.le_of_ble_eq_true rfl)
  rw [lg_entry_eq]
  generalize (lg_sl ([.ref (ad 17 0), .ref (ad 17 1), .ref (ad 17 2), .ref (ad 17 4), .ref (ad 17 5), .ref (ad 17 6), .ref (ad 17 7), .ref (ad 17 10)]) ++ List.replicate (10 - (lg_sl ([.ref (ad 17 0), .ref (ad 17 1), .ref (ad 17 2), .ref (ad 17 4), .ref (ad 17 5), .ref (ad 17 6), .ref (ad 17 7), .ref (ad 17 10)])).length) Slot.unset).toArray = ls at hl ⊢
  have hl : lv_has ls 10 [(0, .ref (ad 17 0)), (1, .ref (ad 17 1)), (2, .ref (ad 17 2)), (3, .ref (ad 17 4)), (4, .ref (ad 17 5)), (5, .ref (ad 17 6)), (6, .ref (ad 17 7)), (7, .ref (ad 17 10))] := hl
  refine lv_iconst (v := 0) hx hb dL_settles_0 (by decide) ?_
  refine lv_istore (lv' := [(8, .int 0), (0, .ref (ad 17 0)), (1, .ref (ad 17 1)), (2, .ref (ad 17 2)), (3, .ref (ad 17 4)), (4, .ref (ad 17 5)), (5, .ref (ad 17 6)), (6, .ref (ad 17 7)), (7, .ref (ad 17 10))]) hx hb dL_settles_1 hl (by decide) rfl (fun ls hl => ?_)
  have LOOP_3 : ∀ (d : Nat) (i : Nat) (Mq : kSt) (Tq : kSt), i ≤ M.2 0 2 → Mq = stl M (kdS M) i → LT Mq Tq → Tq.1 11 = T.1 11 → M.2 0 2 < i + d → ∀ (H : Heap) (locs : List Loc) (ls : Array Slot), kX E G s H locs ad (cto G S Tq o ad) → lv_has ls 10 [(8, .int (nI i)), (0, .ref (ad 17 0)), (1, .ref (ad 17 1)), (2, .ref (ad 17 2)), (3, .ref (ad 17 4)), (4, .ref (ad 17 5)), (5, .ref (ad 17 6)), (6, .ref (ad 17 7)), (7, .ref (ad 17 10))] → W p l e (headSpec (Cond.code yL_settles cL_settles 10 none :: wsL_law) ({ frames := 6, cells := 0, slots := 0, locals := 180 } : Room)).room s m ([.ref (ad 17 0), .ref (ad 17 1), .ref (ad 17 2), .ref (ad 17 4), .ref (ad 17 5), .ref (ad 17 6), .ref (ad 17 7), .ref (ad 17 10)] : List Value).toArray below meth c H locs 0 0 (MQ below (kQv E G (fun ad1 ct1 => ad = ad1 ∧ ∃ T1, ct1 = cto G S T1 o ad ∧ LT (stl M (kdS M) (M.2 0 2)) T1 ∧ T1.1 11 = T.1 11)) ([.ref (ad 17 0), .ref (ad 17 1), .ref (ad 17 2), .ref (ad 17 4), .ref (ad 17 5), .ref (ad 17 6), .ref (ad 17 7), .ref (ad 17 10)] : List Value).toArray s 0 0 (kB E.heap.size)) (F0 m 3 ls []) := by
    intro d
    induction d with
    | zero => intro i Mq Tq h1 hMq hTq h11 h2; intros; exact absurd h2 (by omega)
    | succ d ih =>
      intro i Mq Tq h1 hMq hTq h11 h2 H locs ls X hl
      have e2 : Mq.2 = M.2 := by rw [hMq]; exact (stl_r M (kdS M) i).1
      have hNq : okN Mq := okN_c e2 hN
      have hkd : kdS Mq = kdS M := by rw [hMq]; exact kdS_stl
      have e02 : Mq.2 0 2 = M.2 0 2 := by rw [e2]
      have hcq := hTq.c
      obtain ⟨hc0, hc1, hc2, hc3⟩ := hcq
      refine lv_iload hx hb dL_settles_3 (lv_at hl 0 rfl) ?_
      refine lv_aload hx hb dL_settles_5 (lv_at hl 8 rfl) ?_
      refine lv_iconst (v := 3) hx hb dL_settles_7 (by decide) ?_
      refine k_ild (ad := ad) (k := 17) (i := 10) Z X ct_17_10 (vp_in_nI (n := 3) (by first | assumption | omega) (by decide)) dL_settles_8 ?_
      refine lv_topi (fun x_8 e_8 => ?_)
      obtain rfl : x_8 = Tq.1 11 3 := e_8.trans (by first | (simp only [nI_clamp (show 3 < 2 ^ 31 by omega)]; done) | rfl | (simp only [nI_clamp (show 3 < 2 ^ 31 by omega)]; rfl) | (simp only [nI_clamp (show 3 < 2 ^ 31 by omega)]; simp [sI, sN]; done))
      refine lv_topi (fun x_8 e_8 => ?_)
      obtain rfl : x_8 = nI (Mq.2 0 2) := e_8.trans (hTq.g3)
      refine lv_icmp_ge (tgt := 102) hx hb dL_settles_9 (by decide) (fun c_9 => ?_) (fun c_9 => ?_)
      · have c_9 : Mq.2 0 2 ≤ i := (nI_leI (a := Mq.2 0 2) (b := i) (by omega) (by omega)).mp c_9
        have hn : i = M.2 0 2 := by omega
        rw [hn] at hMq
        exact k_vret Z X hr hlocks (by omega) (by omega) dL_settles_102 ⟨rfl, Tq, rfl, by rw [← hMq]; exact hTq, h11⟩
      · have c_9 : ¬ Mq.2 0 2 ≤ i := fun h => c_9 ((nI_leI (a := Mq.2 0 2) (b := i) (by omega) (by omega)).mpr h)
        have hm3 : Mq.2 3 i < Mq.2 0 1 := hNq.2.2.2.2.2.1 i (by omega)
        have hch : Mq.2 2 (Mq.2 3 i) < 6 := (hNq.2.2.2.2.1 _ hm3).2
        have hes := (hTq.ss hNq (j := i) (by omega)).1
        refine lv_aload hx hb dL_settles_12 (lv_at hl 6 rfl) ?_
        refine lv_iload hx hb dL_settles_14 (lv_at hl 0 rfl) ?_
        refine k_ild (ad := ad) (k := 17) (i := 6) Z X ct_17_6 (vp_in_nI (n := i) (by first | assumption | omega) (by decide)) dL_settles_16 ?_
        refine lv_topi (fun x_16 e_16 => ?_)
        obtain rfl : x_16 = Tq.1 7 i := e_16.trans (by first | (simp only [nI_clamp (show i < 2 ^ 31 by omega)]; done) | rfl | (simp only [nI_clamp (show i < 2 ^ 31 by omega)]; rfl) | (simp only [nI_clamp (show i < 2 ^ 31 by omega)]; simp [sI, sN]; done))
        refine lv_topi (fun x_16 e_16 => ?_)
        obtain rfl : x_16 = nI (encs Mq i) := e_16.trans (hTq.s (by omega))
        refine lv_bipush (v := 64) hx hb dL_settles_17 (by decide) ?_
        refine lv_irem hx hb dL_settles_19 (by decide) ?_
        refine lv_topi (fun x_19 e_19 => ?_)
        obtain rfl : x_19 = nI (Mq.2 3 i) := e_19.trans ((pk_rem (a := (encs Mq i)) (d := 64) (by have := (hTq.ss hNq (j := i) (by omega)).1; omega) (by omega) (by omega)).trans (congrArg nI (hTq.ss hNq (j := i) (by omega)).2.1))
        refine lv_istore (lv' := [(9, .int (nI (Mq.2 3 i))), (8, .int (nI i)), (0, .ref (ad 17 0)), (1, .ref (ad 17 1)), (2, .ref (ad 17 2)), (3, .ref (ad 17 4)), (4, .ref (ad 17 5)), (5, .ref (ad 17 6)), (6, .ref (ad 17 7)), (7, .ref (ad 17 10))]) hx hb dL_settles_20 hl (by decide) rfl (fun ls hl => ?_)
        refine lv_aload hx hb dL_settles_22 (lv_at hl 7 rfl) ?_
        refine lv_iload hx hb dL_settles_24 (lv_at hl 1 rfl) ?_
        refine k_ild (ad := ad) (k := 17) (i := 6) Z X ct_17_6 (vp_in_nI (n := i) (by first | assumption | omega) (by decide)) dL_settles_26 ?_
        refine lv_topi (fun x_26 e_26 => ?_)
        obtain rfl : x_26 = Tq.1 7 i := e_26.trans (by first | (simp only [nI_clamp (show i < 2 ^ 31 by omega)]; done) | rfl | (simp only [nI_clamp (show i < 2 ^ 31 by omega)]; rfl) | (simp only [nI_clamp (show i < 2 ^ 31 by omega)]; simp [sI, sN]; done))
        refine lv_topi (fun x_26 e_26 => ?_)
        obtain rfl : x_26 = nI (encs Mq i) := e_26.trans (hTq.s (by omega))
        refine lv_ldc (v := 65536) hx hb Z.1.2.2.2.1 (Z.1.2.2.2.2 _ (inU_28 _ (List.mem_of_getElem? (i := 8) rfl))) dL_settles_27 ?_
        refine lv_icmp_ge (tgt := 96) hx hb dL_settles_29 (by decide) (fun c_29 => ?_) (fun c_29 => ?_)
        · have c_29 : 65536 ≤ encs Mq i := (nI_leI (a := 65536) (b := encs Mq i) (by omega) (by omega)).mp c_29
          have hst : stl M (kdS M) (i + 1) = Mq := by rw [show stl M (kdS M) (i + 1) = stl1 (stl M (kdS M) i) (kdS M) i from rfl, ← hMq]; exact stl1_no (Or.inl (fun z => absurd ((hTq.ss hNq (j := i) (by omega)).2.2.2.1.mpr z) (by omega)))
          refine lv_iinc (v := (nI (i + 1))) (lv' := [(8, .int (nI (i + 1))), (9, .int (nI (Mq.2 3 i))), (0, .ref (ad 17 0)), (1, .ref (ad 17 1)), (2, .ref (ad 17 2)), (3, .ref (ad 17 4)), (4, .ref (ad 17 5)), (5, .ref (ad 17 6)), (6, .ref (ad 17 7)), (7, .ref (ad 17 10))]) hx hb dL_settles_96 hl (k := 1) rfl (nI_1 _) (by decide) rfl (fun ls hl => ?_)
          refine lv_goto (tgt := 3) hx hb dL_settles_99 (by decide) ?_
          exact ih (i + 1) Mq Tq (by omega) hst.symm hTq h11 (by omega) _ _ _ X (lv_sub hl [0, 2, 3, 4, 5, 6, 7, 8, 9] rfl)
        · have c_29 : ¬ 65536 ≤ encs Mq i := fun h => c_29 ((nI_leI (a := 65536) (b := encs Mq i) (by omega) (by omega)).mpr h)
          have hq12 : Mq.1 12 i = 0 := (hTq.ss hNq (j := i) (by omega)).2.2.2.1.mp (by omega)
          refine lv_aload hx hb dL_settles_32 (lv_at hl 7 rfl) ?_
          refine lv_iload hx hb dL_settles_34 (lv_at hl 1 rfl) ?_
          refine k_ild (ad := ad) (k := 17) (i := 6) Z X ct_17_6 (vp_in_nI (n := i) (by first | assumption | omega) (by decide)) dL_settles_36 ?_
          refine lv_topi (fun x_36 e_36 => ?_)
          obtain rfl : x_36 = Tq.1 7 i := e_36.trans (by first | (simp only [nI_clamp (show i < 2 ^ 31 by omega)]; done) | rfl | (simp only [nI_clamp (show i < 2 ^ 31 by omega)]; rfl) | (simp only [nI_clamp (show i < 2 ^ 31 by omega)]; simp [sI, sN]; done))
          refine lv_topi (fun x_36 e_36 => ?_)
          obtain rfl : x_36 = nI (encs Mq i) := e_36.trans (hTq.s (by omega))
          refine lv_bipush (v := 64) hx hb dL_settles_37 (by decide) ?_
          refine lv_idiv hx hb dL_settles_39 (by decide) ?_
          refine lv_topi (fun x_39 e_39 => ?_)
          obtain rfl : x_39 = Mq.1 10 i := e_39.trans ((pk_div (a := (encs Mq i)) (d := 64) (by have := (hTq.ss hNq (j := i) (by omega)).1; omega) (by omega) (by omega)).trans ((hTq.ss hNq (j := i) (by omega)).2.2.2.2.2 hq12))
          refine lv_aload_n hx hb dL_settles_40 rfl (lv_at hl 4 rfl) ?_
          refine lv_iload hx hb dL_settles_41 (lv_at hl 0 rfl) ?_
          refine k_ild (ad := ad) (k := 17) (i := 2) Z X ct_17_2 (vp_in_nI (n := (Mq.2 3 i)) (by first | assumption | omega) (by decide)) dL_settles_43 ?_
          refine lv_topi (fun x_43 e_43 => ?_)
          obtain rfl : x_43 = Tq.1 3 (Mq.2 3 i) := e_43.trans (by first | (simp only [nI_clamp (show Mq.2 3 i < 2 ^ 31 by omega)]; done) | rfl | (simp only [nI_clamp (show Mq.2 3 i < 2 ^ 31 by omega)]; rfl) | (simp only [nI_clamp (show Mq.2 3 i < 2 ^ 31 by omega)]; simp [sI, sN]; done))
          refine lv_topi (fun x_43 e_43 => ?_)
          obtain rfl : x_43 = Mq.1 7 (Mq.2 3 i) := e_43.trans (hTq.v (by omega))
          refine lv_icmp_ne (tgt := 65) hx hb dL_settles_44 (by decide) (fun c_44 => ?_) (fun c_44 => ?_)
          · have hst : stl M (kdS M) (i + 1) = sI (sI Mq 12 i 1) 3 (Mq.2 2 (Mq.2 3 i)) (Mq.1 3 (Mq.2 2 (Mq.2 3 i)) + Mq.1 11 i) := by rw [show stl M (kdS M) (i + 1) = stl1 (stl M (kdS M) i) (kdS M) i from rfl, ← hMq, ← hkd]; exact stl1_yes hq12 (fun z => c_44 z.1.symm)
            refine lv_aload hx hb dL_settles_65 (lv_at hl 7 rfl) ?_
            refine lv_iload hx hb dL_settles_67 (lv_at hl 1 rfl) ?_
            refine lv_dup2_11 hx hb dL_settles_69 rfl rfl ?_
            refine k_ild (ad := ad) (k := 17) (i := 6) Z X ct_17_6 (vp_in_nI (n := i) (by first | assumption | omega) (by decide)) dL_settles_70 ?_
            refine lv_topi (fun x_70 e_70 => ?_)
            obtain rfl : x_70 = Tq.1 7 i := e_70.trans (by first | (simp only [nI_clamp (show i < 2 ^ 31 by omega)]; done) | rfl | (simp only [nI_clamp (show i < 2 ^ 31 by omega)]; rfl) | (simp only [nI_clamp (show i < 2 ^ 31 by omega)]; simp [sI, sN]; done))
            refine lv_topi (fun x_70 e_70 => ?_)
            obtain rfl : x_70 = nI (encs Mq i) := e_70.trans (hTq.s (by omega))
            refine lv_ldc (v := 65536) hx hb Z.1.2.2.2.1 (Z.1.2.2.2.2 _ (inU_28 _ (List.mem_of_getElem? (i := 8) rfl))) dL_settles_71 ?_
            refine lv_iadd hx hb dL_settles_73 ?_
            refine lv_topi (fun x_73 e_73 => ?_)
            obtain rfl : x_73 = nI ((encs Mq i) + 65536) := e_73.trans (nI_add (encs Mq i) 65536)
            refine k_ist (ad := ad) (k := 17) (i := 6) Z X ct_17_6 (vp_in_nI (n := i) (by first | assumption | omega) (by decide)) dL_settles_74 (fun H locs X => ?_)
            have X : kX E G s H locs ad (cto G S (sI Tq 7 i (nI ((encs Mq i) + 65536))) o ad) := X.eq (st_17 (a := 6) (by decide) i _ (by omega))
            refine lv_aload hx hb dL_settles_75 (lv_at hl 6 rfl) ?_
            refine lv_aload_n hx hb dL_settles_77 rfl (lv_at hl 3 rfl) ?_
            refine lv_iload hx hb dL_settles_78 (lv_at hl 0 rfl) ?_
            refine k_ild (ad := ad) (k := 17) (i := 1) Z X ct_17_1 (vp_in_nI (n := (Mq.2 3 i)) (by first | assumption | omega) (by decide)) dL_settles_80 ?_
            refine lv_topi (fun x_80 e_80 => ?_)
            obtain rfl : x_80 = Tq.1 2 (Mq.2 3 i) := e_80.trans (by first | (simp only [nI_clamp (show Mq.2 3 i < 2 ^ 31 by omega)]; done) | rfl | (simp only [nI_clamp (show Mq.2 3 i < 2 ^ 31 by omega)]; rfl) | (simp only [nI_clamp (show Mq.2 3 i < 2 ^ 31 by omega)]; simp [sI, sN]; done))
            refine lv_topi (fun x_80 e_80 => ?_)
            obtain rfl : x_80 = nI (encm Mq (Mq.2 3 i)) := e_80.trans (hTq.m (by omega))
            refine lv_bipush (v := 16) hx hb dL_settles_81 (by decide) ?_
            refine lv_idiv hx hb dL_settles_83 (by decide) ?_
            refine lv_topi (fun x_83 e_83 => ?_)
            obtain rfl : x_83 = nI ((encm Mq (Mq.2 3 i)) / 16) := e_83.trans ((pk_div (a := (encm Mq (Mq.2 3 i))) (d := 16) (by have := (hTq.mm hNq (j := (Mq.2 3 i)) (by omega)).1; omega) (by omega) (by omega)))
            refine lv_bipush (v := 8) hx hb dL_settles_84 (by decide) ?_
            refine lv_irem hx hb dL_settles_86 (by decide) ?_
            refine lv_topi (fun x_86 e_86 => ?_)
            obtain rfl : x_86 = nI (Mq.2 2 (Mq.2 3 i)) := e_86.trans ((pk_rem (a := ((encm Mq (Mq.2 3 i)) / 16)) (d := 8) (by have := (hTq.mm hNq (j := (Mq.2 3 i)) (by omega)).1; omega) (by omega) (by omega)).trans (congrArg nI (hTq.mm hNq (j := (Mq.2 3 i)) (by omega)).2.2.1))
            refine lv_dup2_11 hx hb dL_settles_87 rfl rfl ?_
            refine k_ild (ad := ad) (k := 17) (i := 5) Z X ct_17_5 (vp_in_nI (n := (Mq.2 2 (Mq.2 3 i))) (by first | assumption | omega) (by decide)) dL_settles_88 ?_
            refine lv_topi (fun x_88 e_88 => ?_)
            obtain rfl : x_88 = Tq.1 6 (Mq.2 2 (Mq.2 3 i)) := e_88.trans (by first | (simp only [nI_clamp (show Mq.2 2 (Mq.2 3 i) < 2 ^ 31 by omega)]; done) | rfl | (simp only [nI_clamp (show Mq.2 2 (Mq.2 3 i) < 2 ^ 31 by omega)]; rfl) | (simp only [nI_clamp (show Mq.2 2 (Mq.2 3 i) < 2 ^ 31 by omega)]; simp [sI, sN]; done))
            refine lv_topi (fun x_88 e_88 => ?_)
            obtain rfl : x_88 = Mq.1 3 (Mq.2 2 (Mq.2 3 i)) := e_88.trans (hTq.b (by omega))
            refine lv_aload hx hb dL_settles_89 (lv_at hl 8 rfl) ?_
            refine lv_iload hx hb dL_settles_91 (lv_at hl 1 rfl) ?_
            refine k_ild (ad := ad) (k := 17) (i := 7) Z X ct_17_7 (vp_in_nI (n := i) (by first | assumption | omega) (by decide)) dL_settles_93 ?_
            refine lv_topi (fun x_93 e_93 => ?_)
            obtain rfl : x_93 = Tq.1 8 i := e_93.trans (by first | (simp only [nI_clamp (show i < 2 ^ 31 by omega)]; done) | rfl | (simp only [nI_clamp (show i < 2 ^ 31 by omega)]; rfl) | (simp only [nI_clamp (show i < 2 ^ 31 by omega)]; simp [sI, sN]; done))
            refine lv_topi (fun x_93 e_93 => ?_)
            obtain rfl : x_93 = Mq.1 11 i := e_93.trans (hTq.a (by omega))
            refine lv_iadd hx hb dL_settles_94 ?_
            refine k_ist (ad := ad) (k := 17) (i := 5) Z X ct_17_5 (vp_in_nI (n := (Mq.2 2 (Mq.2 3 i))) (by first | assumption | omega) (by decide)) dL_settles_95 (fun H locs X => ?_)
            have X : kX E G s H locs ad (cto G S (sI (sI Tq 7 i (nI ((encs Mq i) + 65536))) 6 (Mq.2 2 (Mq.2 3 i)) ((Mq.1 3 (Mq.2 2 (Mq.2 3 i))) + (Mq.1 11 i))) o ad) := X.eq (st_17 (a := 5) (by decide) (Mq.2 2 (Mq.2 3 i)) _ (by omega))
            refine lv_iinc (v := (nI (i + 1))) (lv' := [(8, .int (nI (i + 1))), (9, .int (nI (Mq.2 3 i))), (0, .ref (ad 17 0)), (1, .ref (ad 17 1)), (2, .ref (ad 17 2)), (3, .ref (ad 17 4)), (4, .ref (ad 17 5)), (5, .ref (ad 17 6)), (6, .ref (ad 17 7)), (7, .ref (ad 17 10))]) hx hb dL_settles_96 hl (k := 1) rfl (nI_1 _) (by decide) rfl (fun ls hl => ?_)
            refine lv_goto (tgt := 3) hx hb dL_settles_99 (by decide) ?_
            exact ih (i + 1) _ _ (by omega) hst.symm (hTq.back hNq (by omega) hq12) (by rw [← h11]; exact fn2 (by decide)) (by omega) _ _ _ X (lv_sub hl [0, 2, 3, 4, 5, 6, 7, 8, 9] rfl)
          · refine lv_aload_n hx hb dL_settles_47 rfl (lv_at hl 2 rfl) ?_
            refine lv_aload_n hx hb dL_settles_48 rfl (lv_at hl 3 rfl) ?_
            refine lv_aload_n hx hb dL_settles_49 rfl (lv_at hl 5 rfl) ?_
            refine lv_aload hx hb dL_settles_50 (lv_at hl 9 rfl) ?_
            refine lv_iload hx hb dL_settles_52 (lv_at hl 0 rfl) ?_
            refine lv_aload hx hb dL_settles_54 (lv_at hl 8 rfl) ?_
            refine lv_iload hx hb dL_settles_56 (lv_at hl 1 rfl) ?_
            refine k_ild (ad := ad) (k := 17) (i := 7) Z X ct_17_7 (vp_in_nI (n := i) (by first | assumption | omega) (by decide)) dL_settles_58 ?_
            refine lv_topi (fun x_58 e_58 => ?_)
            obtain rfl : x_58 = Tq.1 8 i := e_58.trans (by first | (simp only [nI_clamp (show i < 2 ^ 31 by omega)]; done) | rfl | (simp only [nI_clamp (show i < 2 ^ 31 by omega)]; rfl) | (simp only [nI_clamp (show i < 2 ^ 31 by omega)]; simp [sI, sN]; done))
            refine lv_topi (fun x_58 e_58 => ?_)
            obtain rfl : x_58 = Mq.1 11 i := e_58.trans (hTq.a (by omega))
            refine k_Ri X (k_runS (As := [.ref (ad 17 0), .ref (ad 17 1), .ref (ad 17 4), .ref (ad 17 10), .int (nI (Mq.2 3 i)), .int (Mq.1 11 i)]) (rest := []) Z X (c_L_isApproved l E G S Tq o ad Mq hTq hNq (Mq.2 3 i) (Mq.1 11 i) hm3) (k_cwS 6 Z.1.2.2.2.2 (inU_27 _ (List.mem_of_getElem? (i := 21) rfl)) (inU_27 _ (List.mem_of_getElem? (i := 22) rfl)) (inU_6 _ (List.mem_of_getElem? (i := 5) rfl)) (inU_27 _ (List.mem_of_getElem? (i := 23) rfl)) rfl rfl (by decide +kernel) ⟨Nat.le_of_ble_eq_true rfl, Nat.le_of_ble_eq_true rfl⟩) rfl hl.1 rfl (Nat.le_of_ble_eq_true rfl) dL_settles_59 ⟨(by first | exact Nat.le_of_ble_eq_true rfl | (show _ ≤ (_ : Nat); simp only [headSpec]; omega)), (by first | exact Nat.le_of_ble_eq_true rfl | (show _ ≤ (_ : Nat); simp only [headSpec]; omega))⟩) (fun r_59 ad1 ct1 H locs hp X => ?_)
            obtain ⟨rfl, ha_, hb_⟩ := hp
            rw [← ha_, hb_] at X
            refine lv_if_ne (tgt := 96) hx hb dL_settles_62 (by decide) (fun c_62 => ?_) (fun c_62 => ?_)
            · have c_62 : (appr Mq (kdS Mq (Mq.2 3 i)) (Mq.2 1 (Mq.2 3 i)) (Mq.2 0 0) (Mq.1 11 i)) = true := bI_1 c_62
              have hst : stl M (kdS M) (i + 1) = Mq := by rw [show stl M (kdS M) (i + 1) = stl1 (stl M (kdS M) i) (kdS M) i from rfl, ← hMq, ← hkd]; exact stl1_no (Or.inr ⟨c_44.symm, c_62⟩)
              refine lv_iinc (v := (nI (i + 1))) (lv' := [(8, .int (nI (i + 1))), (9, .int (nI (Mq.2 3 i))), (0, .ref (ad 17 0)), (1, .ref (ad 17 1)), (2, .ref (ad 17 2)), (3, .ref (ad 17 4)), (4, .ref (ad 17 5)), (5, .ref (ad 17 6)), (6, .ref (ad 17 7)), (7, .ref (ad 17 10))]) hx hb dL_settles_96 hl (k := 1) rfl (nI_1 _) (by decide) rfl (fun ls hl => ?_)
              refine lv_goto (tgt := 3) hx hb dL_settles_99 (by decide) ?_
              exact ih (i + 1) Mq Tq (by omega) hst.symm hTq h11 (by omega) _ _ _ X (lv_sub hl [0, 2, 3, 4, 5, 6, 7, 8, 9] rfl)
            · have c_62 : (appr Mq (kdS Mq (Mq.2 3 i)) (Mq.2 1 (Mq.2 3 i)) (Mq.2 0 0) (Mq.1 11 i)) = false := bI_0 c_62
              have hst : stl M (kdS M) (i + 1) = sI (sI Mq 12 i 1) 3 (Mq.2 2 (Mq.2 3 i)) (Mq.1 3 (Mq.2 2 (Mq.2 3 i)) + Mq.1 11 i) := by rw [show stl M (kdS M) (i + 1) = stl1 (stl M (kdS M) i) (kdS M) i from rfl, ← hMq, ← hkd]; exact stl1_yes hq12 (fun z => by rw [c_62] at z; exact absurd z.2 (by decide))
              refine lv_aload hx hb dL_settles_65 (lv_at hl 7 rfl) ?_
              refine lv_iload hx hb dL_settles_67 (lv_at hl 1 rfl) ?_
              refine lv_dup2_11 hx hb dL_settles_69 rfl rfl ?_
              refine k_ild (ad := ad) (k := 17) (i := 6) Z X ct_17_6 (vp_in_nI (n := i) (by first | assumption | omega) (by decide)) dL_settles_70 ?_
              refine lv_topi (fun x_70 e_70 => ?_)
              obtain rfl : x_70 = Tq.1 7 i := e_70.trans (by first | (simp only [nI_clamp (show i < 2 ^ 31 by omega)]; done) | rfl | (simp only [nI_clamp (show i < 2 ^ 31 by omega)]; rfl) | (simp only [nI_clamp (show i < 2 ^ 31 by omega)]; simp [sI, sN]; done))
              refine lv_topi (fun x_70 e_70 => ?_)
              obtain rfl : x_70 = nI (encs Mq i) := e_70.trans (hTq.s (by omega))
              refine lv_ldc (v := 65536) hx hb Z.1.2.2.2.1 (Z.1.2.2.2.2 _ (inU_28 _ (List.mem_of_getElem? (i := 8) rfl))) dL_settles_71 ?_
              refine lv_iadd hx hb dL_settles_73 ?_
              refine lv_topi (fun x_73 e_73 => ?_)
              obtain rfl : x_73 = nI ((encs Mq i) + 65536) := e_73.trans (nI_add (encs Mq i) 65536)
              refine k_ist (ad := ad) (k := 17) (i := 6) Z X ct_17_6 (vp_in_nI (n := i) (by first | assumption | omega) (by decide)) dL_settles_74 (fun H locs X => ?_)
              have X : kX E G s H locs ad (cto G S (sI Tq 7 i (nI ((encs Mq i) + 65536))) o ad) := X.eq (st_17 (a := 6) (by decide) i _ (by omega))
              refine lv_aload hx hb dL_settles_75 (lv_at hl 6 rfl) ?_
              refine lv_aload_n hx hb dL_settles_77 rfl (lv_at hl 3 rfl) ?_
              refine lv_iload hx hb dL_settles_78 (lv_at hl 0 rfl) ?_
              refine k_ild (ad := ad) (k := 17) (i := 1) Z X ct_17_1 (vp_in_nI (n := (Mq.2 3 i)) (by first | assumption | omega) (by decide)) dL_settles_80 ?_
              refine lv_topi (fun x_80 e_80 => ?_)
              obtain rfl : x_80 = Tq.1 2 (Mq.2 3 i) := e_80.trans (by first | (simp only [nI_clamp (show Mq.2 3 i < 2 ^ 31 by omega)]; done) | rfl | (simp only [nI_clamp (show Mq.2 3 i < 2 ^ 31 by omega)]; rfl) | (simp only [nI_clamp (show Mq.2 3 i < 2 ^ 31 by omega)]; simp [sI, sN]; done))
              refine lv_topi (fun x_80 e_80 => ?_)
              obtain rfl : x_80 = nI (encm Mq (Mq.2 3 i)) := e_80.trans (hTq.m (by omega))
              refine lv_bipush (v := 16) hx hb dL_settles_81 (by decide) ?_
              refine lv_idiv hx hb dL_settles_83 (by decide) ?_
              refine lv_topi (fun x_83 e_83 => ?_)
              obtain rfl : x_83 = nI ((encm Mq (Mq.2 3 i)) / 16) := e_83.trans ((pk_div (a := (encm Mq (Mq.2 3 i))) (d := 16) (by have := (hTq.mm hNq (j := (Mq.2 3 i)) (by omega)).1; omega) (by omega) (by omega)))
              refine lv_bipush (v := 8) hx hb dL_settles_84 (by decide) ?_
              refine lv_irem hx hb dL_settles_86 (by decide) ?_
              refine lv_topi (fun x_86 e_86 => ?_)
              obtain rfl : x_86 = nI (Mq.2 2 (Mq.2 3 i)) := e_86.trans ((pk_rem (a := ((encm Mq (Mq.2 3 i)) / 16)) (d := 8) (by have := (hTq.mm hNq (j := (Mq.2 3 i)) (by omega)).1; omega) (by omega) (by omega)).trans (congrArg nI (hTq.mm hNq (j := (Mq.2 3 i)) (by omega)).2.2.1))
              refine lv_dup2_11 hx hb dL_settles_87 rfl rfl ?_
              refine k_ild (ad := ad) (k := 17) (i := 5) Z X ct_17_5 (vp_in_nI (n := (Mq.2 2 (Mq.2 3 i))) (by first | assumption | omega) (by decide)) dL_settles_88 ?_
              refine lv_topi (fun x_88 e_88 => ?_)
              obtain rfl : x_88 = Tq.1 6 (Mq.2 2 (Mq.2 3 i)) := e_88.trans (by first | (simp only [nI_clamp (show Mq.2 2 (Mq.2 3 i) < 2 ^ 31 by omega)]; done) | rfl | (simp only [nI_clamp (show Mq.2 2 (Mq.2 3 i) < 2 ^ 31 by omega)]; rfl) | (simp only [nI_clamp (show Mq.2 2 (Mq.2 3 i) < 2 ^ 31 by omega)]; simp [sI, sN]; done))
              refine lv_topi (fun x_88 e_88 => ?_)
              obtain rfl : x_88 = Mq.1 3 (Mq.2 2 (Mq.2 3 i)) := e_88.trans (hTq.b (by omega))
              refine lv_aload hx hb dL_settles_89 (lv_at hl 8 rfl) ?_
              refine lv_iload hx hb dL_settles_91 (lv_at hl 1 rfl) ?_
              refine k_ild (ad := ad) (k := 17) (i := 7) Z X ct_17_7 (vp_in_nI (n := i) (by first | assumption | omega) (by decide)) dL_settles_93 ?_
              refine lv_topi (fun x_93 e_93 => ?_)
              obtain rfl : x_93 = Tq.1 8 i := e_93.trans (by first | (simp only [nI_clamp (show i < 2 ^ 31 by omega)]; done) | rfl | (simp only [nI_clamp (show i < 2 ^ 31 by omega)]; rfl) | (simp only [nI_clamp (show i < 2 ^ 31 by omega)]; simp [sI, sN]; done))
              refine lv_topi (fun x_93 e_93 => ?_)
              obtain rfl : x_93 = Mq.1 11 i := e_93.trans (hTq.a (by omega))
              refine lv_iadd hx hb dL_settles_94 ?_
              refine k_ist (ad := ad) (k := 17) (i := 5) Z X ct_17_5 (vp_in_nI (n := (Mq.2 2 (Mq.2 3 i))) (by first | assumption | omega) (by decide)) dL_settles_95 (fun H locs X => ?_)
              have X : kX E G s H locs ad (cto G S (sI (sI Tq 7 i (nI ((encs Mq i) + 65536))) 6 (Mq.2 2 (Mq.2 3 i)) ((Mq.1 3 (Mq.2 2 (Mq.2 3 i))) + (Mq.1 11 i))) o ad) := X.eq (st_17 (a := 5) (by decide) (Mq.2 2 (Mq.2 3 i)) _ (by omega))
              refine lv_iinc (v := (nI (i + 1))) (lv' := [(8, .int (nI (i + 1))), (9, .int (nI (Mq.2 3 i))), (0, .ref (ad 17 0)), (1, .ref (ad 17 1)), (2, .ref (ad 17 2)), (3, .ref (ad 17 4)), (4, .ref (ad 17 5)), (5, .ref (ad 17 6)), (6, .ref (ad 17 7)), (7, .ref (ad 17 10))]) hx hb dL_settles_96 hl (k := 1) rfl (nI_1 _) (by decide) rfl (fun ls hl => ?_)
              refine lv_goto (tgt := 3) hx hb dL_settles_99 (by decide) ?_
              exact ih (i + 1) _ _ (by omega) hst.symm (hTq.back hNq (by omega) hq12) (by rw [← h11]; exact fn2 (by decide)) (by omega) _ _ _ X (lv_sub hl [0, 2, 3, 4, 5, 6, 7, 8, 9] rfl)
  exact LOOP_3 (M.2 0 2 + 1) 0 M T (Nat.zero_le _) rfl hT rfl (by omega) _ _ _ X (lv_sub hl [0, 1, 2, 3, 4, 5, 6, 7, 8] rfl)
