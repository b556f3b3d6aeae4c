/-! TASK: its constructor, task, label -/
def txt (a v u h : Nat) : List Nat := dgs 20 a ++ 46 :: (dgs 20 v ++ 62 :: (dgs 20 u ++ 64 :: dgs 20 h))
theorem txt_lt {a v u h c : Nat} (hc : c ∈ txt a v u h) : c < 128 := by
  simp only [txt, List.mem_append, List.mem_cons] at hc
  rcases hc with h | h | h | h | h | h | h
  · have := dgs_lt _ _ _ h; omega
  · omega
  · have := dgs_lt _ _ _ h; omega
  · omega
  · have := dgs_lt _ _ _ h; omega
  · omega
  · have := dgs_lt _ _ _ h; omega
theorem txt_len {a v u h : Nat} (ha : a < 80) (hv : v ≤ 512) (hu : u < 12) (hh : h ≤ 522000) : (txt a v u h).length ≤ 16 ∧ sb_dg a ≤ 2 ∧ sb_dg v ≤ 3 ∧ sb_dg u ≤ 2 ∧ sb_dg h ≤ 6 := by
  have d1 : sb_dg a ≤ 2 := by unfold sb_dg; (repeat' split) <;> omega
  have d2 : sb_dg v ≤ 3 := by unfold sb_dg; (repeat' split) <;> omega
  have d3 : sb_dg u ≤ 2 := by unfold sb_dg; (repeat' split) <;> omega
  have d4 : sb_dg h ≤ 6 := by unfold sb_dg; (repeat' split) <;> omega
  refine ⟨?_, d1, d2, d3, d4⟩
  simp only [txt, List.length_append, List.length_cons]
  rw [dgs_sbl (by omega), dgs_sbl (by omega), dgs_sbl (by omega), dgs_sbl (by omega)]
  omega
theorem tbl_0 {G : kG} {ad : kAd} {ct : kCt} {A : va_E} : cup (cup (cup ct 97 0 A) 96 0 (.inl (G.2.1, 16, .inl (fun _ => 0)))) 97 0 (.inr (1, [.ref (ad 96 0), .int 0, .int 0, .int 0])) = tbl G ad 0 [] ct := by
  rw [cup_sw (by simp), cup_cup]
  rfl
theorem tbl_2 {G : kG} {ad : kAd} {mb : Int32} {w w' : List Nat} {ct : kCt} {n : Nat} (h : w'.length = n) : cup (cup (tbl G ad mb w ct) 96 0 (.inl (G.2.1, 16, .inl (txF w')))) 97 0 (.inr (1, [.ref (ad 96 0), .int 0, .int mb, .int (nI n)])) = tbl G ad mb w' ct := by
  rw [cup_sw2 (by simp)]
  exact tbl_1 h
theorem tbl_drop {E : State} {G : kG} {s : State} {H : Heap} {locs : List Loc} {ad A : kAd} {ct : kCt} {mb : Int32} {w : List Nat} {i z7 z6 z1 z2 : Nat} {V0 B Sx V : va_E} (h96 : ct 96 0 = none) (h97 : ct 97 0 = none)
    (X : kX E G s H locs (aup (aup (aup (aup ad 97 0 z7) 96 0 z6) 10 i z1) 11 i z2) (cup (cup (cup (tbl G A mb w (cup ct 9 i V0)) 11 i B) 10 i Sx) 9 i V)) : kX E G s H locs (aup (aup ad 10 i z1) 11 i z2) (cup (cup (cup ct 11 i B) 10 i Sx) 9 i V) := by
  refine X.drop (fun k j e h => ?_)
  by_cases q6 : k = 96 ∧ j = 0
  · rw [q6.1, q6.2, cup_n (by simp), cup_n (by simp), cup_n (by simp), h96] at h
    cases h
  · by_cases q7 : k = 97 ∧ j = 0
    · rw [q7.1, q7.2, cup_n (by simp), cup_n (by simp), cup_n (by simp), h97] at h
      cases h
    · refine ⟨?_, ?_⟩
      · rw [← h]
        by_cases q9 : k = 9 ∧ j = i
        · rw [q9.1, q9.2, cup_s, cup_s]
        · rw [cup_n q9, cup_n q9]
          by_cases q10 : k = 10 ∧ j = i
          · rw [q10.1, q10.2, cup_s, cup_s]
          · rw [cup_n q10, cup_n q10]
            by_cases q11 : k = 11 ∧ j = i
            · rw [q11.1, q11.2, cup_s, cup_s]
            · rw [cup_n q11, cup_n q11]
              unfold tbl
              rw [cup_n q6, cup_n q7, cup_n q9]
      · by_cases q11 : k = 11 ∧ j = i
        · rw [q11.1, q11.2, aup_s, aup_s]
        · rw [aup_n q11, aup_n q11]
          by_cases q10 : k = 10 ∧ j = i
          · rw [q10.1, q10.2, aup_s, aup_s]
          · rw [aup_n q10, aup_n q10, aup_n q6, aup_n q7]
theorem dX5_init_0 : decode cX5_init 0 = .ok (.aload_n 0, 1) := by decide +kernel
theorem dX5_init_1 : decode cX5_init 1 = .ok (.invokespecial 3, 3) := by decide +kernel
theorem dX5_init_4 : decode cX5_init 4 = .ok (.aload_n 0, 1) := by decide +kernel
theorem dX5_init_5 : decode cX5_init 5 = .ok (.iload_n 1, 1) := by decide +kernel
theorem dX5_init_6 : decode cX5_init 6 = .ok (.putfield 9, 3) := by decide +kernel
theorem dX5_init_9 : decode cX5_init 9 = .ok (.aload_n 0, 1) := by decide +kernel
theorem dX5_init_10 : decode cX5_init 10 = .ok (.aload_n 2, 1) := by decide +kernel
theorem dX5_init_11 : decode cX5_init 11 = .ok (.getfield 15, 3) := by decide +kernel
theorem dX5_init_14 : decode cX5_init 14 = .ok (.putfield 18, 3) := by decide +kernel
theorem dX5_init_17 : decode cX5_init 17 = .ok (.aload_n 0, 1) := by decide +kernel
theorem dX5_init_18 : decode cX5_init 18 = .ok (.aload_n 3, 1) := by decide +kernel
theorem dX5_init_19 : decode cX5_init 19 = .ok (.putfield 21, 3) := by decide +kernel
theorem dX5_init_22 : decode cX5_init 22 = .ok (.aload_n 0, 1) := by decide +kernel
theorem dX5_init_23 : decode cX5_init 23 = .ok (.iload 4, 2) := by decide +kernel
theorem dX5_init_25 : decode cX5_init 25 = .ok (.putfield 25, 3) := by decide +kernel
theorem dX5_init_28 : decode cX5_init 28 = .ok (.aload_n 0, 1) := by decide +kernel
theorem dX5_init_29 : decode cX5_init 29 = .ok (.new 28, 3) := by decide +kernel
theorem dX5_init_32 : decode cX5_init 32 = .ok (.dup, 1) := by decide +kernel
theorem dX5_init_33 : decode cX5_init 33 = .ok (.invokespecial 30, 3) := by decide +kernel
theorem dX5_init_36 : decode cX5_init 36 = .ok (.aload_n 2, 1) := by decide +kernel
theorem dX5_init_37 : decode cX5_init 37 = .ok (.getfield 15, 3) := by decide +kernel
theorem dX5_init_40 : decode cX5_init 40 = .ok (.invokevirtual 31, 3) := by decide +kernel
theorem dX5_init_43 : decode cX5_init 43 = .ok (.bipush 46, 2) := by decide +kernel
theorem dX5_init_45 : decode cX5_init 45 = .ok (.invokevirtual 35, 3) := by decide +kernel
theorem dX5_init_48 : decode cX5_init 48 = .ok (.aload_n 2, 1) := by decide +kernel
theorem dX5_init_49 : decode cX5_init 49 = .ok (.getfield 38, 3) := by decide +kernel
theorem dX5_init_52 : decode cX5_init 52 = .ok (.invokevirtual 31, 3) := by decide +kernel
theorem dX5_init_55 : decode cX5_init 55 = .ok (.bipush 62, 2) := by decide +kernel
theorem dX5_init_57 : decode cX5_init 57 = .ok (.invokevirtual 35, 3) := by decide +kernel
theorem dX5_init_60 : decode cX5_init 60 = .ok (.aload_n 3, 1) := by decide +kernel
theorem dX5_init_61 : decode cX5_init 61 = .ok (.getfield 41, 3) := by decide +kernel
theorem dX5_init_64 : decode cX5_init 64 = .ok (.invokevirtual 31, 3) := by decide +kernel
theorem dX5_init_67 : decode cX5_init 67 = .ok (.bipush 64, 2) := by decide +kernel
theorem dX5_init_69 : decode cX5_init 69 = .ok (.invokevirtual 35, 3) := by decide +kernel
theorem dX5_init_72 : decode cX5_init 72 = .ok (.iload 4, 2) := by decide +kernel
theorem dX5_init_74 : decode cX5_init 74 = .ok (.invokevirtual 31, 3) := by decide +kernel
theorem dX5_init_77 : decode cX5_init 77 = .ok (.invokevirtual 44, 3) := by decide +kernel
theorem dX5_init_80 : decode cX5_init 80 = .ok (.putfield 48, 3) := by decide +kernel
theorem dX5_init_83 : decode cX5_init 83 = .ok (.aload_n 0, 1) := by decide +kernel
theorem dX5_init_84 : decode cX5_init 84 = .ok (.iconst 0, 1) := by decide +kernel
theorem dX5_init_85 : decode cX5_init 85 = .ok (.putfield 52, 3) := by decide +kernel
theorem dX5_init_88 : decode cX5_init 88 = .ok (.return_, 1) := by decide +kernel
set_option maxHeartbeats 4000000 in
set_option maxRecDepth 100000 in
theorem c_X5_init (l : Launch) (E : State) (G : kG) (ad : kAd) (ct : kCt) (hE : kE l E G) (i n a u9 vv hh : Nat) (ha : a < 80) (hv : vv ≤ 512) (hu : u9 < 12) (hh9 : hh ≤ 522000) (mv1 mv2 mv3 mv4 mv5 mv7 mu1 mu2 : Value) (hc : ct 9 i = some (.inr (8, [.int 0, .int 0, .null, .int 0, .null, .int 0]))) (h5 : ct 5 a = some (.inr (6, [.int (nI a), mv1, mv2, mv3, mv4, mv5, .int (nI vv), mv7]))) (h4 : ct 4 u9 = some (.inr (9, [.int (nI u9), mu1, mu2]))) (h96 : ct 96 0 = none) (h97 : ct 97 0 = none) : Met l yX5_init (.code yX5_init cX5_init 5 none :: wsL_law) ({ frames := 8, cells := 4, slots := 40, locals := 330 } : Room) (va_Pc [.ref (ad 9 i), .int (nI n), .ref (ad 5 a), .ref (ad 4 u9), .int (nI hh)] (kPre E G ad ct)) (kQv E G (fun ad1 ct1 => ∃ z1 z2 : Nat, ad1 = aup (aup ad 10 i z1) 11 i z2 ∧ ct1 = cup (cup (cup ct 11 i (.inl (G.2.1, (txt a vv u9 hh).length, .inl (txF (txt a vv u9 hh))))) 10 i (.inr (0, [.ref z2, .int 0, .int 0, .int 0]))) 9 i (.inr (8, [.int (nI n), .int (nI a), .ref (ad 4 u9), .int (nI hh), .ref z1, .int 0])))) 4 40 (kB E.heap.size) := by
  refine Met.ofW (cc := cX5_init) (maxL := 5) (ret := none) (by decide) rfl ?_
  intro p e s m args below meth c s₁ B hml hv
  obtain ⟨rfl, hM, hK, hW0⟩ := hv
  have hlocks := B.notSynchronized
  have hr := B.returns
  have hin : meth.name = "<init>" := (name_of_methodNamed B.named B.method).1
  have Z : kZ p m c cX5_init 5 s _ wsL_law RX5 E G := ⟨⟨B.exec, B.bytes, hml, findClass_of_methodNamed B.named, fun w h => atoms_spec (ws := .code yX5_init cX5_init 5 none :: wsL_law) B.pre w (List.mem_cons_of_mem _ h)⟩, hM, hK⟩
  have hx := Z.1.1
  have hb := Z.1.2.1
  have X := kX.of hW0
  have hl := lv_entry ([.ref (ad 9 i), .int (nI n), .ref (ad 5 a), .ref (ad 4 u9), .int (nI hh)]) (n := 5) (Nat.le_of_ble_eq_true rfl)
  rw [lg_entry_eq]
  generalize (lg_sl ([.ref (ad 9 i), .int (nI n), .ref (ad 5 a), .ref (ad 4 u9), .int (nI hh)]) ++ List.replicate (5 - (lg_sl ([.ref (ad 9 i), .int (nI n), .ref (ad 5 a), .ref (ad 4 u9), .int (nI hh)])).length) Slot.unset).toArray = ls at hl ⊢
  have hl : lv_has ls 5 [(0, .ref (ad 9 i)), (1, .int (nI n)), (2, .ref (ad 5 a)), (3, .ref (ad 4 u9)), (4, .int (nI hh))] := hl
  obtain ⟨h16, d1, d2, d3, d4⟩ := txt_len ha hv hu hh9
  refine lv_aload_n hx hb dX5_init_0 rfl (lv_at hl 0 rfl) ?_
  refine k_objInit Z (inU_15 _ (List.mem_of_getElem? (i := 4) rfl)) (inU_1 _ (List.mem_of_getElem? (i := 13) rfl)) (inU_1 _ (List.mem_of_getElem? (i := 14) rfl)) hl.1 (Nat.le_of_ble_eq_true rfl) ⟨(Nat.le_of_ble_eq_true rfl), (Nat.le_of_ble_eq_true rfl)⟩ dX5_init_1 ?_
  refine lv_aload_n hx hb dX5_init_4 rfl (lv_at hl 0 rfl) ?_
  refine lv_iload_n hx hb dX5_init_5 rfl (lv_at hl 1 rfl) ?_
  refine k_putF (index := 9) (j := 0) (k := 9) (i := i) Z X hc inlX5 tyX5_ok nmX5 rfl (by decide) (inU_15 _ (List.mem_of_getElem? (i := 5) rfl)) rfl hin rfl (Nat.le_of_ble_eq_true rfl) rfl rfl dX5_init_6 (fun H locs X => ?_)
  have X : kX E G s H locs ad (cup ct 9 i (.inr (8, [.int (nI n), .int 0, .null, .int 0, .null, .int 0]))) := kXz X rfl (by first | rfl | exact cup_cup)
  refine lv_aload_n hx hb dX5_init_9 rfl (lv_at hl 0 rfl) ?_
  refine lv_aload_n hx hb dX5_init_10 rfl (lv_at hl 2 rfl) ?_
  refine k_get (index := 15) (j := 0) (ad := ad) (k := 5) (i := a) Z X ((cup_n (by simp)).trans h5) inlX3 rfl (by decide) (inU_15 _ (List.mem_of_getElem? (i := 6) rfl)) (fun _ h => h) (v := .int (nI a)) rfl dX5_init_11 ?_
  refine k_putF (index := 18) (j := 1) (k := 9) (i := i) Z X cup_s inlX5 tyX5_ok nmX5 rfl (by decide) (inU_15 _ (List.mem_of_getElem? (i := 7) rfl)) rfl hin rfl (Nat.le_of_ble_eq_true rfl) rfl rfl dX5_init_14 (fun H locs X => ?_)
  have X : kX E G s H locs ad (cup ct 9 i (.inr (8, [.int (nI n), .int (nI a), .null, .int 0, .null, .int 0]))) := kXz X rfl (by first | rfl | exact cup_cup)
  refine lv_aload_n hx hb dX5_init_17 rfl (lv_at hl 0 rfl) ?_
  refine lv_aload_n hx hb dX5_init_18 rfl (lv_at hl 3 rfl) ?_
  refine k_putF (index := 21) (j := 2) (k := 9) (i := i) Z X cup_s inlX5 tyX5_ok nmX5 rfl (by decide) (inU_15 _ (List.mem_of_getElem? (i := 8) rfl)) rfl hin rfl (Nat.le_of_ble_eq_true rfl) rfl rfl dX5_init_19 (fun H locs X => ?_)
  have X : kX E G s H locs ad (cup ct 9 i (.inr (8, [.int (nI n), .int (nI a), .ref (ad 4 u9), .int 0, .null, .int 0]))) := kXz X rfl (by first | rfl | exact cup_cup)
  refine lv_aload_n hx hb dX5_init_22 rfl (lv_at hl 0 rfl) ?_
  refine lv_iload hx hb dX5_init_23 (lv_at hl 4 rfl) ?_
  refine k_putF (index := 25) (j := 3) (k := 9) (i := i) Z X cup_s inlX5 tyX5_ok nmX5 rfl (by decide) (inU_15 _ (List.mem_of_getElem? (i := 9) rfl)) rfl hin rfl (Nat.le_of_ble_eq_true rfl) rfl rfl dX5_init_25 (fun H locs X => ?_)
  have X : kX E G s H locs ad (cup ct 9 i (.inr (8, [.int (nI n), .int (nI a), .ref (ad 4 u9), .int (nI hh), .null, .int 0]))) := kXz X rfl (by first | rfl | exact cup_cup)
  refine lv_aload_n hx hb dX5_init_28 rfl (lv_at hl 0 rfl) ?_
  refine k_new (fs := [.null, .int 0, .int 0, .int 0]) (ci := 1) (ty0 := tyJ4) 97 0 Z X inlJ4 tyJ4_ok rfl (inU_15 _ (List.mem_of_getElem? (i := 10) rfl)) (inU_15 _ (List.mem_of_getElem? (i := 11) rfl)) (inU_15 _ (List.mem_of_getElem? (i := 12) rfl)) (fun j hj => by match j, hj with | 0, _ => rfl | 1, _ => rfl | 2, _ => rfl | 3, _ => rfl) (Nat.le_of_ble_eq_true rfl) (Nat.le_of_ble_eq_true rfl) dX5_init_29 (fun z H X => ?_)
  obtain ⟨adM, hadM⟩ : ∃ y, y = aup ad 97 0 z := ⟨_, rfl⟩
  obtain ⟨ctM, hctM⟩ : ∃ y, y = cup (cup ct 9 i (.inr (8, [.int (nI n), .int (nI a), .ref (ad 4 u9), .int (nI hh), .null, .int 0]))) 97 0 (.inr (1, [.null, .int 0, .int 0, .int 0])) := ⟨_, rfl⟩
  rw [← hadM, ← hctM] at X
  have eN : adM 97 0 = z := by rw [hadM]; exact aup_s
  have hcM : ctM 97 0 = some (.inr (1, [.null, .int 0, .int 0, .int 0])) := by rw [hctM]; exact cup_s
  rw [← eN]
  refine lv_dup hx hb dX5_init_32 rfl ?_
  refine k_Rv X (k_runI (As := []) (rest := [.ref (adM 97 0), .ref (ad 9 i)]) Z X (c_J4_init_da8c8 l E G adM ctM hE hcM) (k_cwI 0 Z.1.2.2.2.2 (inU_15 _ (List.mem_of_getElem? (i := 17) rfl)) (inU_15 _ (List.mem_of_getElem? (i := 18) rfl)) (inU_15 _ (List.mem_of_getElem? (i := 12) rfl)) (inU_15 _ (List.mem_of_getElem? (i := 19) rfl)) rfl rfl rfl (by decide +kernel) ⟨Nat.le_of_ble_eq_true rfl, Nat.le_of_ble_eq_true rfl⟩) rfl hl.1 rfl (Nat.le_of_ble_eq_true rfl) dX5_init_33 ⟨(by first | exact Nat.le_of_ble_eq_true rfl | (show _ ≤ (_ : Nat); simp only [headSpec]; omega)), (by first | exact Nat.le_of_ble_eq_true rfl | (show _ ≤ (_ : Nat); simp only [headSpec]; omega))⟩) (fun ad1 ct1 H locs hp X => ?_)
  obtain ⟨z6, hp1, hp2⟩ := hp
  obtain ⟨ad2, had2⟩ : ∃ y, y = aup adM 96 0 z6 := ⟨_, rfl⟩
  have e6 : ad2 96 0 = z6 := by rw [had2]; exact aup_s
  have X : kX E G s H locs ad2 (tbl G ad2 0 [] (cup ct 9 i (.inr (8, [.int (nI n), .int (nI a), .ref (ad 4 u9), .int (nI hh), .null, .int 0])))) := kXz X (hp1.trans had2.symm) (by rw [hp2, hctM, ← e6]; exact tbl_0)
  have ek : ∀ k j, ¬ k = 97 → ¬ k = 96 → ad2 k j = ad k j := fun k j a b => by rw [had2, hadM]; exact (aup_n (fun z => b z.1)).trans (aup_n (fun z => a z.1))
  have e7 : ad2 97 0 = adM 97 0 := by rw [had2]; exact aup_n (by simp)
  rw [← e7]
  have f9 := ek 9 i (by decide) (by decide)
  have f5 := ek 5 a (by decide) (by decide)
  have f4 := ek 4 u9 (by decide) (by decide)
  rw [← f9, ← f5, ← f4] at hl
  refine W.eq (congrArg (fun y => F0 m 36 ls [.ref (ad2 97 0), .ref y]) f9.symm) ?_
  refine lv_aload_n hx hb dX5_init_36 rfl (lv_at hl 2 rfl) ?_
  refine k_get (index := 15) (j := 0) (ad := ad2) (k := 5) (i := a) Z X ((tbl_n (by decide)).trans ((cup_n (by simp)).trans h5)) inlX3 rfl (by decide) (inU_15 _ (List.mem_of_getElem? (i := 6) rfl)) (fun _ h => h) (v := .int (nI a)) rfl dX5_init_37 ?_
  have n0 : ([] : List Nat).length = 0 := rfl
  refine k_Rq X (k_runV (As := [.int (nI a)]) (rest := [.ref (ad2 9 i)]) Z X (c_J4_append_bf812 l E G ad2 (tbl G ad2 0 [] (cup ct 9 i (.inr (8, [.int (nI n), .int (nI a), .ref (ad 4 u9), .int (nI hh), .null, .int 0])))) hE 0 ([] : List Nat).length tbl_s (txF []) tbl_b a (by omega) (by omega)) (k_cwV 1 Z.1.2.2.2.2 (inU_16 _ (List.mem_of_getElem? (i := 13) rfl)) (inU_16 _ (List.mem_of_getElem? (i := 14) rfl)) (inU_16 _ (List.mem_of_getElem? (i := 15) rfl)) (inU_15 _ (List.mem_of_getElem? (i := 12) rfl)) (inU_16 _ (List.mem_of_getElem? (i := 16) rfl)) rfl rfl (by decide +kernel) ⟨Nat.le_of_ble_eq_true rfl, Nat.le_of_ble_eq_true rfl⟩) (k_recv Z X tbl_s rfl) rfl hl.1 rfl (Nat.le_of_ble_eq_true rfl) dX5_init_40 ⟨(by first | exact Nat.le_of_ble_eq_true rfl | (show _ ≤ (_ : Nat); simp only [headSpec]; omega)), (by first | exact Nat.le_of_ble_eq_true rfl | (show _ ≤ (_ : Nat); simp only [headSpec]; omega))⟩) (fun r_40 ad1 ct1 H locs hp X => ?_)
  obtain ⟨rfl, ha_, a9, h9, hb_⟩ := hp
  obtain ⟨w1, hw1⟩ : ∃ y, y = [] ++ dgs 20 a := ⟨_, rfl⟩
  have nw1 : w1.length = ([] : List Nat).length + sb_dg a := by rw [hw1, List.length_append, dgs_sbl (by omega)]
  rw [← ha_, hb_, ap_dg (by omega) h9, ← hw1, tbl_2 nw1] at X
  have n0 : ([] : List Nat).length = 0 := rfl
  refine lv_bipush (v := 46) hx hb dX5_init_43 (by decide) ?_
  refine k_Rq X (k_runV (As := [.int (nI 46)]) (rest := [.ref (ad2 9 i)]) Z X (c_J4_append_cf468 l E G ad2 (tbl G ad2 0 w1 (cup ct 9 i (.inr (8, [.int (nI n), .int (nI a), .ref (ad 4 u9), .int (nI hh), .null, .int 0])))) hE 0 w1.length tbl_s (txF w1) tbl_b 46 (by decide) (by omega)) (k_cwV 1 Z.1.2.2.2.2 (inU_19 _ (List.mem_of_getElem? (i := 14) rfl)) (inU_19 _ (List.mem_of_getElem? (i := 15) rfl)) (inU_19 _ (List.mem_of_getElem? (i := 16) rfl)) (inU_15 _ (List.mem_of_getElem? (i := 12) rfl)) (inU_19 _ (List.mem_of_getElem? (i := 17) rfl)) rfl rfl (by decide +kernel) ⟨Nat.le_of_ble_eq_true rfl, Nat.le_of_ble_eq_true rfl⟩) (k_recv Z X tbl_s rfl) rfl hl.1 rfl (Nat.le_of_ble_eq_true rfl) dX5_init_45 ⟨(by first | exact Nat.le_of_ble_eq_true rfl | (show _ ≤ (_ : Nat); simp only [headSpec]; omega)), (by first | exact Nat.le_of_ble_eq_true rfl | (show _ ≤ (_ : Nat); simp only [headSpec]; omega))⟩) (fun r_45 ad1 ct1 H locs hp X => ?_)
  obtain ⟨rfl, ha_, hb_⟩ := hp
  obtain ⟨w2, hw2⟩ : ∃ y, y = w1 ++ [46] := ⟨_, rfl⟩
  have nw2 : w2.length = w1.length + 1 := by rw [hw2, List.length_append]; rfl
  rw [← ha_, hb_, ap_ch, ← hw2, tbl_1 nw2] at X
  refine lv_aload_n hx hb dX5_init_48 rfl (lv_at hl 2 rfl) ?_
  refine k_get (index := 38) (j := 6) (ad := ad2) (k := 5) (i := a) Z X ((tbl_n (by decide)).trans ((cup_n (by simp)).trans h5)) inlX3 rfl (by decide) (inU_15 _ (List.mem_of_getElem? (i := 13) rfl)) (fun _ h => h) (v := .int (nI vv)) rfl dX5_init_49 ?_
  refine k_Rq X (k_runV (As := [.int (nI vv)]) (rest := [.ref (ad2 9 i)]) Z X (c_J4_append_bf812 l E G ad2 (tbl G ad2 0 w2 (cup ct 9 i (.inr (8, [.int (nI n), .int (nI a), .ref (ad 4 u9), .int (nI hh), .null, .int 0])))) hE 0 w2.length tbl_s (txF w2) tbl_b vv (by omega) (by omega)) (k_cwV 1 Z.1.2.2.2.2 (inU_16 _ (List.mem_of_getElem? (i := 13) rfl)) (inU_16 _ (List.mem_of_getElem? (i := 14) rfl)) (inU_16 _ (List.mem_of_getElem? (i := 15) rfl)) (inU_15 _ (List.mem_of_getElem? (i := 12) rfl)) (inU_16 _ (List.mem_of_getElem? (i := 16) rfl)) rfl rfl (by decide +kernel) ⟨Nat.le_of_ble_eq_true rfl, Nat.le_of_ble_eq_true rfl⟩) (k_recv Z X tbl_s rfl) rfl hl.1 rfl (Nat.le_of_ble_eq_true rfl) dX5_init_52 ⟨(by first | exact Nat.le_of_ble_eq_true rfl | (show _ ≤ (_ : Nat); simp only [headSpec]; omega)), (by first | exact Nat.le_of_ble_eq_true rfl | (show _ ≤ (_ : Nat); simp only [headSpec]; omega))⟩) (fun r_52 ad1 ct1 H locs hp X => ?_)
  obtain ⟨rfl, ha_, a9, h9, hb_⟩ := hp
  obtain ⟨w3, hw3⟩ : ∃ y, y = w2 ++ dgs 20 vv := ⟨_, rfl⟩
  have nw3 : w3.length = w2.length + sb_dg vv := by rw [hw3, List.length_append, dgs_sbl (by omega)]
  rw [← ha_, hb_, ap_dg (by omega) h9, ← hw3, tbl_2 nw3] at X
  refine lv_bipush (v := 62) hx hb dX5_init_55 (by decide) ?_
  refine k_Rq X (k_runV (As := [.int (nI 62)]) (rest := [.ref (ad2 9 i)]) Z X (c_J4_append_cf468 l E G ad2 (tbl G ad2 0 w3 (cup ct 9 i (.inr (8, [.int (nI n), .int (nI a), .ref (ad 4 u9), .int (nI hh), .null, .int 0])))) hE 0 w3.length tbl_s (txF w3) tbl_b 62 (by decide) (by omega)) (k_cwV 1 Z.1.2.2.2.2 (inU_19 _ (List.mem_of_getElem? (i := 14) rfl)) (inU_19 _ (List.mem_of_getElem? (i := 15) rfl)) (inU_19 _ (List.mem_of_getElem? (i := 16) rfl)) (inU_15 _ (List.mem_of_getElem? (i := 12) rfl)) (inU_19 _ (List.mem_of_getElem? (i := 17) rfl)) rfl rfl (by decide +kernel) ⟨Nat.le_of_ble_eq_true rfl, Nat.le_of_ble_eq_true rfl⟩) (k_recv Z X tbl_s rfl) rfl hl.1 rfl (Nat.le_of_ble_eq_true rfl) dX5_init_57 ⟨(by first | exact Nat.le_of_ble_eq_true rfl | (show _ ≤ (_ : Nat); simp only [headSpec]; omega)), (by first | exact Nat.le_of_ble_eq_true rfl | (show _ ≤ (_ : Nat); simp only [headSpec]; omega))⟩) (fun r_57 ad1 ct1 H locs hp X => ?_)
  obtain ⟨rfl, ha_, hb_⟩ := hp
  obtain ⟨w4, hw4⟩ : ∃ y, y = w3 ++ [62] := ⟨_, rfl⟩
  have nw4 : w4.length = w3.length + 1 := by rw [hw4, List.length_append]; rfl
  rw [← ha_, hb_, ap_ch, ← hw4, tbl_1 nw4] at X
  refine lv_aload_n hx hb dX5_init_60 rfl (lv_at hl 3 rfl) ?_
  refine k_get (index := 41) (j := 0) (ad := ad2) (k := 4) (i := u9) Z X ((tbl_n (by decide)).trans ((cup_n (by simp)).trans h4)) inlX6 rfl (by decide) (inU_15 _ (List.mem_of_getElem? (i := 14) rfl)) (fun _ h => h) (v := .int (nI u9)) rfl dX5_init_61 ?_
  refine k_Rq X (k_runV (As := [.int (nI u9)]) (rest := [.ref (ad2 9 i)]) Z X (c_J4_append_bf812 l E G ad2 (tbl G ad2 0 w4 (cup ct 9 i (.inr (8, [.int (nI n), .int (nI a), .ref (ad 4 u9), .int (nI hh), .null, .int 0])))) hE 0 w4.length tbl_s (txF w4) tbl_b u9 (by omega) (by omega)) (k_cwV 1 Z.1.2.2.2.2 (inU_16 _ (List.mem_of_getElem? (i := 13) rfl)) (inU_16 _ (List.mem_of_getElem? (i := 14) rfl)) (inU_16 _ (List.mem_of_getElem? (i := 15) rfl)) (inU_15 _ (List.mem_of_getElem? (i := 12) rfl)) (inU_16 _ (List.mem_of_getElem? (i := 16) rfl)) rfl rfl (by decide +kernel) ⟨Nat.le_of_ble_eq_true rfl, Nat.le_of_ble_eq_true rfl⟩) (k_recv Z X tbl_s rfl) rfl hl.1 rfl (Nat.le_of_ble_eq_true rfl) dX5_init_64 ⟨(by first | exact Nat.le_of_ble_eq_true rfl | (show _ ≤ (_ : Nat); simp only [headSpec]; omega)), (by first | exact Nat.le_of_ble_eq_true rfl | (show _ ≤ (_ : Nat); simp only [headSpec]; omega))⟩) (fun r_64 ad1 ct1 H locs hp X => ?_)
  obtain ⟨rfl, ha_, a9, h9, hb_⟩ := hp
  obtain ⟨w5, hw5⟩ : ∃ y, y = w4 ++ dgs 20 u9 := ⟨_, rfl⟩
  have nw5 : w5.length = w4.length + sb_dg u9 := by rw [hw5, List.length_append, dgs_sbl (by omega)]
  rw [← ha_, hb_, ap_dg (by omega) h9, ← hw5, tbl_2 nw5] at X
  refine lv_bipush (v := 64) hx hb dX5_init_67 (by decide) ?_
  refine k_Rq X (k_runV (As := [.int (nI 64)]) (rest := [.ref (ad2 9 i)]) Z X (c_J4_append_cf468 l E G ad2 (tbl G ad2 0 w5 (cup ct 9 i (.inr (8, [.int (nI n), .int (nI a), .ref (ad 4 u9), .int (nI hh), .null, .int 0])))) hE 0 w5.length tbl_s (txF w5) tbl_b 64 (by decide) (by omega)) (k_cwV 1 Z.1.2.2.2.2 (inU_19 _ (List.mem_of_getElem? (i := 14) rfl)) (inU_19 _ (List.mem_of_getElem? (i := 15) rfl)) (inU_19 _ (List.mem_of_getElem? (i := 16) rfl)) (inU_15 _ (List.mem_of_getElem? (i := 12) rfl)) (inU_19 _ (List.mem_of_getElem? (i := 17) rfl)) rfl rfl (by decide +kernel) ⟨Nat.le_of_ble_eq_true rfl, Nat.le_of_ble_eq_true rfl⟩) (k_recv Z X tbl_s rfl) rfl hl.1 rfl (Nat.le_of_ble_eq_true rfl) dX5_init_69 ⟨(by first | exact Nat.le_of_ble_eq_true rfl | (show _ ≤ (_ : Nat); simp only [headSpec]; omega)), (by first | exact Nat.le_of_ble_eq_true rfl | (show _ ≤ (_ : Nat); simp only [headSpec]; omega))⟩) (fun r_69 ad1 ct1 H locs hp X => ?_)
  obtain ⟨rfl, ha_, hb_⟩ := hp
  obtain ⟨w6, hw6⟩ : ∃ y, y = w5 ++ [64] := ⟨_, rfl⟩
  have nw6 : w6.length = w5.length + 1 := by rw [hw6, List.length_append]; rfl
  rw [← ha_, hb_, ap_ch, ← hw6, tbl_1 nw6] at X
  refine lv_iload hx hb dX5_init_72 (lv_at hl 4 rfl) ?_
  refine k_Rq X (k_runV (As := [.int (nI hh)]) (rest := [.ref (ad2 9 i)]) Z X (c_J4_append_bf812 l E G ad2 (tbl G ad2 0 w6 (cup ct 9 i (.inr (8, [.int (nI n), .int (nI a), .ref (ad 4 u9), .int (nI hh), .null, .int 0])))) hE 0 w6.length tbl_s (txF w6) tbl_b hh (by omega) (by omega)) (k_cwV 1 Z.1.2.2.2.2 (inU_16 _ (List.mem_of_getElem? (i := 13) rfl)) (inU_16 _ (List.mem_of_getElem? (i := 14) rfl)) (inU_16 _ (List.mem_of_getElem? (i := 15) rfl)) (inU_15 _ (List.mem_of_getElem? (i := 12) rfl)) (inU_16 _ (List.mem_of_getElem? (i := 16) rfl)) rfl rfl (by decide +kernel) ⟨Nat.le_of_ble_eq_true rfl, Nat.le_of_ble_eq_true rfl⟩) (k_recv Z X tbl_s rfl) rfl hl.1 rfl (Nat.le_of_ble_eq_true rfl) dX5_init_74 ⟨(by first | exact Nat.le_of_ble_eq_true rfl | (show _ ≤ (_ : Nat); simp only [headSpec]; omega)), (by first | exact Nat.le_of_ble_eq_true rfl | (show _ ≤ (_ : Nat); simp only [headSpec]; omega))⟩) (fun r_74 ad1 ct1 H locs hp X => ?_)
  obtain ⟨rfl, ha_, a9, h9, hb_⟩ := hp
  obtain ⟨w7, hw7⟩ : ∃ y, y = w6 ++ dgs 20 hh := ⟨_, rfl⟩
  have nw7 : w7.length = w6.length + sb_dg hh := by rw [hw7, List.length_append, dgs_sbl (by omega)]
  rw [← ha_, hb_, ap_dg (by omega) h9, ← hw7, tbl_2 nw7] at X
  have ht : w7 = txt a vv u9 hh := by simp only [hw7, hw6, hw5, hw4, hw3, hw2, hw1, txt, List.nil_append, List.append_assoc, List.cons_append]
  rw [ht] at X
  refine k_Rq X (k_runV (As := []) (rest := [.ref (ad2 9 i)]) Z X (c_J4_toString_0e30d l E G ad2 (tbl G ad2 0 (txt a vv u9 hh) (cup ct 9 i (.inr (8, [.int (nI n), .int (nI a), .ref (ad 4 u9), .int (nI hh), .null, .int 0])))) hE 0 (txt a vv u9 hh) h16 (fun c h => txt_lt h) i tbl_s tbl_b) (k_cwV 0 Z.1.2.2.2.2 (inU_21 _ (List.mem_of_getElem? (i := 8) rfl)) (inU_21 _ (List.mem_of_getElem? (i := 9) rfl)) (inU_21 _ (List.mem_of_getElem? (i := 10) rfl)) (inU_15 _ (List.mem_of_getElem? (i := 12) rfl)) (inU_21 _ (List.mem_of_getElem? (i := 11) rfl)) rfl rfl (by decide +kernel) ⟨Nat.le_of_ble_eq_true rfl, Nat.le_of_ble_eq_true rfl⟩) (k_recv Z X tbl_s rfl) rfl hl.1 rfl (Nat.le_of_ble_eq_true rfl) dX5_init_77 ⟨(by first | exact Nat.le_of_ble_eq_true rfl | (show _ ≤ (_ : Nat); simp only [headSpec]; omega)), (by first | exact Nat.le_of_ble_eq_true rfl | (show _ ≤ (_ : Nat); simp only [headSpec]; omega))⟩) (fun r_77 ad1 ct1 H locs hp X => ?_)
  obtain ⟨z1, z2, rfl, hp1, hp2⟩ := hp
  obtain ⟨ad3, had3⟩ : ∃ y, y = aup (aup ad2 10 i z1) 11 i z2 := ⟨_, rfl⟩
  rw [hp1, hp2, ← had3] at X
  have g9 : ad3 9 i = ad2 9 i := by rw [had3]; exact (aup_n (by simp)).trans (aup_n (by simp))
  rw [← g9] at hl
  refine W.eq (congrArg (fun y => F0 m 80 ls [.ref z1, .ref y]) g9.symm) ?_
  refine k_putF (index := 48) (j := 4) (k := 9) (i := i) Z X ((cup_n (by simp)).trans ((cup_n (by simp)).trans ((tbl_n (by decide)).trans cup_s))) inlX5 tyX5_ok nmX5 rfl (by decide) (inU_15 _ (List.mem_of_getElem? (i := 15) rfl)) rfl hin rfl (Nat.le_of_ble_eq_true rfl) rfl rfl dX5_init_80 (fun H locs X => ?_)
  have X : kX E G s H locs ad3 (cup (cup (cup (tbl G ad2 0 (txt a vv u9 hh) (cup ct 9 i (.inr (8, [.int (nI n), .int (nI a), .ref (ad 4 u9), .int (nI hh), .null, .int 0])))) 11 i (.inl (G.2.1, (txt a vv u9 hh).length, .inl (txF (txt a vv u9 hh))))) 10 i (.inr (0, [.ref z2, .int 0, .int 0, .int 0]))) 9 i (.inr (8, [.int (nI n), .int (nI a), .ref (ad 4 u9), .int (nI hh), .ref z1, .int 0]))) := kXz X rfl (by first | rfl | exact cup_cup)
  refine lv_aload_n hx hb dX5_init_83 rfl (lv_at hl 0 rfl) ?_
  refine lv_iconst (v := 0) hx hb dX5_init_84 (by decide) ?_
  refine k_put (index := 52) (j := 5) (k := 9) (i := i) Z X cup_s inlX5 tyX5_ok nmX5 rfl (by decide) (inU_15 _ (List.mem_of_getElem? (i := 16) rfl)) (fun _ h => h) rfl (Nat.le_of_ble_eq_true rfl) rfl rfl dX5_init_85 (fun H locs X => ?_)
  have X : kX E G s H locs ad3 (cup (cup (cup (tbl G ad2 0 (txt a vv u9 hh) (cup ct 9 i (.inr (8, [.int (nI n), .int (nI a), .ref (ad 4 u9), .int (nI hh), .null, .int 0])))) 11 i (.inl (G.2.1, (txt a vv u9 hh).length, .inl (txF (txt a vv u9 hh))))) 10 i (.inr (0, [.ref z2, .int 0, .int 0, .int 0]))) 9 i (.inr (8, [.int (nI n), .int (nI a), .ref (ad 4 u9), .int (nI hh), .ref z1, .int 0]))) := kXz X rfl (by first | rfl | exact cup_cup)
  rw [had3, had2, hadM] at X
  exact k_vret Z (tbl_drop h96 h97 X) hr hlocks (Nat.le_of_ble_eq_true rfl) (Nat.le_of_ble_eq_true rfl) dX5_init_88 ⟨z1, z2, rfl, rfl⟩
theorem gT_1 {S : kSt} {m w x : Int32} {cap f : Nat} (h : f ≠ 13 ∧ f ≠ 14 ∧ f ≠ 19 ∧ f ≠ 20) : (gT S m w x cap).1 f = S.1 f := by
  show (sI (sN (oTask S m w x) 6 4 cap) 19 4 (S.1 19 4 + 1)).1 f = _
  rw [sI_fn h.2.2.1]
  show (sI (sI (sN (sI (sN S 4 (S.2 0 3) (cl m)) 20 (S.2 0 3) (S.1 7 (cl m))) 5 (S.2 0 3) (cl w)) 13 (S.2 0 3) (S.1 0 0 + x)) 14 (S.2 0 3) 0).1 f = _
  rw [sI_fn h.2.1, sI_fn h.1]
  show (sI (sN S 4 (S.2 0 3) (cl m)) 20 (S.2 0 3) (S.1 7 (cl m))).1 f = _
  rw [sI_fn h.2.2.2]
  rfl
theorem gT_lab {S : kSt} {m w x : Int32} {cap : Nat} : lab (gT S m w x cap) (S.2 0 3) = txt (cl m) (S.1 7 (cl m)).toNatClampNeg (cl w) (S.1 0 0 + x).toNatClampNeg := by
  simp [lab, txt, gT, oTask, sI, sN]
theorem inR_10k {x : Int32} (h : inR x 0 10000 = true) : ∃ j : Nat, j ≤ 10000 ∧ x = nI j := by
  simp only [inR, Bool.and_eq_true, decide_eq_true_eq] at h
  obtain ⟨j, hj, rfl⟩ := nI_of (Int32.not_lt.mpr h.1)
  exact ⟨j, (nI_leI (b := 10000) hj (by decide)).mp h.2, rfl⟩
theorem in4 {ct : kCt} {i : Nat} {a b c d : va_E} : cup (cup (cup (cup ct 9 i a) 11 i b) 10 i c) 9 i d = cup (cup (cup ct 11 i b) 10 i c) 9 i d := by
  funext x y
  simp only [cup]
  by_cases h5 : x = 9 ∧ y = i
  · simp only [if_pos h5]
  · simp only [if_neg h5]
theorem gT_grow {G : kG} {S T : kSt} {o : Int64} {ad : kAd} {cap : Nat} (m w x : Int32)  (hc : cap ≠ 0) : cup (cup (cup (cup (cup (cto G S T o ad) 11 (S.2 0 3) ((.inl (G.2.1, (lab (gT S m w x cap) (S.2 0 3)).length, .inl (fun j => nI ((lab (gT S m w x cap) (S.2 0 3)).getD j 0)))))) 10 (S.2 0 3) (.inr (0, [.ref (ad 11 (S.2 0 3)), .int 0, .int 0, .int 0]))) 9 (S.2 0 3) (.inr (8, [.int (nI (S.2 0 3)), .int (nI (cl m)), .ref (ad 4 (cl w)), .int (S.1 0 0 + x), .ref (ad 10 (S.2 0 3)), .int 0]))) 2 4 (kOa G cap (kUp (fun j => if j < (S.2 0 3) then some (ad 9 j) else none) (S.2 0 3) (ad 9 (S.2 0 3))))) 1 4 (.inr (2, [.int (S.1 19 4 + 1), .ref (ad 2 4), .int (nI ((S.2 0 3) + 1))])) = cto G (gT S m w x cap) T o ad :=
  grow_task (S := S) (S' := gT S m w x cap) (mo := (S.1 19 4 + 1)) (cl m) (cl w) (S.1 7 (cl m)) (S.1 0 0 + x) (gT_1 (by decide)) (gT_1 (by decide)) (gT_1 (by decide)) (gT_1 (by decide)) (gT_1 (by decide)) (gT_1 (by decide)) (gT_1 (by decide)) (gT_1 (by decide)) (gT_1 (by decide)) (gT_1 (by decide)) (gT_1 (by decide)) (gT_1 (by decide)) (gT_1 (by decide)) (gT_1 (by decide)) (gT_1 (by decide)) (gT_1 (by decide)) (by first | rfl | (funext j; simp [gT, oTask, sI, sN]; done) | (simp [gT, oTask, sI, sN]; done) | (intro i hi; simp [gT, oTask, sI, sN, Nat.ne_of_lt hi]; done) | (intro i hi; simp [gT, oTask, sI, sN, hi]; done) | (intro i hi; have hi2 : i < S.2 0 3 := hi; simp [gT, oTask, sI, sN, Nat.ne_of_lt hi2]; done)) (by first | rfl | (funext j; simp [gT, oTask, sI, sN]; done) | (simp [gT, oTask, sI, sN]; done) | (intro i hi; simp [gT, oTask, sI, sN, Nat.ne_of_lt hi]; done) | (intro i hi; simp [gT, oTask, sI, sN, hi]; done) | (intro i hi; have hi2 : i < S.2 0 3 := hi; simp [gT, oTask, sI, sN, Nat.ne_of_lt hi2]; done)) (by first | rfl | (funext j; simp [gT, oTask, sI, sN]; done) | (simp [gT, oTask, sI, sN]; done) | (intro i hi; simp [gT, oTask, sI, sN, Nat.ne_of_lt hi]; done) | (intro i hi; simp [gT, oTask, sI, sN, hi]; done) | (intro i hi; have hi2 : i < S.2 0 3 := hi; simp [gT, oTask, sI, sN, Nat.ne_of_lt hi2]; done)) (by first | rfl | (funext j; simp [gT, oTask, sI, sN]; done) | (simp [gT, oTask, sI, sN]; done) | (intro i hi; simp [gT, oTask, sI, sN, Nat.ne_of_lt hi]; done) | (intro i hi; simp [gT, oTask, sI, sN, hi]; done) | (intro i hi; have hi2 : i < S.2 0 3 := hi; simp [gT, oTask, sI, sN, Nat.ne_of_lt hi2]; done)) (by first | rfl | (funext j; simp [gT, oTask, sI, sN]; done) | (simp [gT, oTask, sI, sN]; done) | (intro i hi; simp [gT, oTask, sI, sN, Nat.ne_of_lt hi]; done) | (intro i hi; simp [gT, oTask, sI, sN, hi]; done) | (intro i hi; have hi2 : i < S.2 0 3 := hi; simp [gT, oTask, sI, sN, Nat.ne_of_lt hi2]; done)) (by first | rfl | (funext j; simp [gT, oTask, sI, sN]; done) | (simp [gT, oTask, sI, sN]; done) | (intro i hi; simp [gT, oTask, sI, sN, Nat.ne_of_lt hi]; done) | (intro i hi; simp [gT, oTask, sI, sN, hi]; done) | (intro i hi; have hi2 : i < S.2 0 3 := hi; simp [gT, oTask, sI, sN, Nat.ne_of_lt hi2]; done)) (by first | rfl | (funext j; simp [gT, oTask, sI, sN]; done) | (simp [gT, oTask, sI, sN]; done) | (intro i hi; simp [gT, oTask, sI, sN, Nat.ne_of_lt hi]; done) | (intro i hi; simp [gT, oTask, sI, sN, hi]; done) | (intro i hi; have hi2 : i < S.2 0 3 := hi; simp [gT, oTask, sI, sN, Nat.ne_of_lt hi2]; done)) (by first | rfl | (funext j; simp [gT, oTask, sI, sN]; done) | (simp [gT, oTask, sI, sN]; done) | (intro i hi; simp [gT, oTask, sI, sN, Nat.ne_of_lt hi]; done) | (intro i hi; simp [gT, oTask, sI, sN, hi]; done) | (intro i hi; have hi2 : i < S.2 0 3 := hi; simp [gT, oTask, sI, sN, Nat.ne_of_lt hi2]; done)) (by first | rfl | (funext j; simp [gT, oTask, sI, sN]; done) | (simp [gT, oTask, sI, sN]; done) | (intro i hi; simp [gT, oTask, sI, sN, Nat.ne_of_lt hi]; done) | (intro i hi; simp [gT, oTask, sI, sN, hi]; done) | (intro i hi; have hi2 : i < S.2 0 3 := hi; simp [gT, oTask, sI, sN, Nat.ne_of_lt hi2]; done)) (by first | rfl | (funext j; simp [gT, oTask, sI, sN]; done) | (simp [gT, oTask, sI, sN]; done) | (intro i hi; simp [gT, oTask, sI, sN, Nat.ne_of_lt hi]; done) | (intro i hi; simp [gT, oTask, sI, sN, hi]; done) | (intro i hi; have hi2 : i < S.2 0 3 := hi; simp [gT, oTask, sI, sN, Nat.ne_of_lt hi2]; done)) (by first | rfl | (funext j; simp [gT, oTask, sI, sN]; done) | (simp [gT, oTask, sI, sN]; done) | (intro i hi; simp [gT, oTask, sI, sN, Nat.ne_of_lt hi]; done) | (intro i hi; simp [gT, oTask, sI, sN, hi]; done) | (intro i hi; have hi2 : i < S.2 0 3 := hi; simp [gT, oTask, sI, sN, Nat.ne_of_lt hi2]; done)) (by first | rfl | (funext j; simp [gT, oTask, sI, sN]; done) | (simp [gT, oTask, sI, sN]; done) | (intro i hi; simp [gT, oTask, sI, sN, Nat.ne_of_lt hi]; done) | (intro i hi; simp [gT, oTask, sI, sN, hi]; done) | (intro i hi; have hi2 : i < S.2 0 3 := hi; simp [gT, oTask, sI, sN, Nat.ne_of_lt hi2]; done)) (by first | rfl | (funext j; simp [gT, oTask, sI, sN]; done) | (simp [gT, oTask, sI, sN]; done) | (intro i hi; simp [gT, oTask, sI, sN, Nat.ne_of_lt hi]; done) | (intro i hi; simp [gT, oTask, sI, sN, hi]; done) | (intro i hi; have hi2 : i < S.2 0 3 := hi; simp [gT, oTask, sI, sN, Nat.ne_of_lt hi2]; done)) (by first | rfl | (funext j; simp [gT, oTask, sI, sN]; done) | (simp [gT, oTask, sI, sN]; done) | (intro i hi; simp [gT, oTask, sI, sN, Nat.ne_of_lt hi]; done) | (intro i hi; simp [gT, oTask, sI, sN, hi]; done) | (intro i hi; have hi2 : i < S.2 0 3 := hi; simp [gT, oTask, sI, sN, Nat.ne_of_lt hi2]; done)) (by first | rfl | (funext j; simp [gT, oTask, sI, sN]; done) | (simp [gT, oTask, sI, sN]; done) | (intro i hi; simp [gT, oTask, sI, sN, Nat.ne_of_lt hi]; done) | (intro i hi; simp [gT, oTask, sI, sN, hi]; done) | (intro i hi; have hi2 : i < S.2 0 3 := hi; simp [gT, oTask, sI, sN, Nat.ne_of_lt hi2]; done)) (by first | rfl | (funext j; simp [gT, oTask, sI, sN]; done) | (simp [gT, oTask, sI, sN]; done) | (intro i hi; simp [gT, oTask, sI, sN, Nat.ne_of_lt hi]; done) | (intro i hi; simp [gT, oTask, sI, sN, hi]; done) | (intro i hi; have hi2 : i < S.2 0 3 := hi; simp [gT, oTask, sI, sN, Nat.ne_of_lt hi2]; done)) (by first | rfl | (funext j; simp [gT, oTask, sI, sN]; done) | (simp [gT, oTask, sI, sN]; done) | (intro i hi; simp [gT, oTask, sI, sN, Nat.ne_of_lt hi]; done) | (intro i hi; simp [gT, oTask, sI, sN, hi]; done) | (intro i hi; have hi2 : i < S.2 0 3 := hi; simp [gT, oTask, sI, sN, Nat.ne_of_lt hi2]; done)) (by first | rfl | (funext j; simp [gT, oTask, sI, sN]; done) | (simp [gT, oTask, sI, sN]; done) | (intro i hi; simp [gT, oTask, sI, sN, Nat.ne_of_lt hi]; done) | (intro i hi; simp [gT, oTask, sI, sN, hi]; done) | (intro i hi; have hi2 : i < S.2 0 3 := hi; simp [gT, oTask, sI, sN, Nat.ne_of_lt hi2]; done)) (by first | rfl | (funext j; simp [gT, oTask, sI, sN]; done) | (simp [gT, oTask, sI, sN]; done) | (intro i hi; simp [gT, oTask, sI, sN, Nat.ne_of_lt hi]; done) | (intro i hi; simp [gT, oTask, sI, sN, hi]; done) | (intro i hi; have hi2 : i < S.2 0 3 := hi; simp [gT, oTask, sI, sN, Nat.ne_of_lt hi2]; done)) (by first | rfl | (funext j; simp [gT, oTask, sI, sN]; done) | (simp [gT, oTask, sI, sN]; done) | (intro i hi; simp [gT, oTask, sI, sN, Nat.ne_of_lt hi]; done) | (intro i hi; simp [gT, oTask, sI, sN, hi]; done) | (intro i hi; have hi2 : i < S.2 0 3 := hi; simp [gT, oTask, sI, sN, Nat.ne_of_lt hi2]; done)) hc (by first | rfl | (funext j; simp [gT, oTask, sI, sN]; done) | (simp [gT, oTask, sI, sN]; done) | (intro i hi; simp [gT, oTask, sI, sN, Nat.ne_of_lt hi]; done) | (intro i hi; simp [gT, oTask, sI, sN, hi]; done) | (intro i hi; have hi2 : i < S.2 0 3 := hi; simp [gT, oTask, sI, sN, Nat.ne_of_lt hi2]; done)) (by first | rfl | (funext j; simp [gT, oTask, sI, sN]; done) | (simp [gT, oTask, sI, sN]; done) | (intro i hi; simp [gT, oTask, sI, sN, Nat.ne_of_lt hi]; done) | (intro i hi; simp [gT, oTask, sI, sN, hi]; done) | (intro i hi; have hi2 : i < S.2 0 3 := hi; simp [gT, oTask, sI, sN, Nat.ne_of_lt hi2]; done)) (fun i => gT_1 ⟨ne_b (by decide), ne_b (by decide), ne_b (by decide), ne_b (by decide)⟩)
theorem dX7_task_0 : decode cX7_task 0 = .ok (.aload_n 0, 1) := by decide +kernel
theorem dX7_task_1 : decode cX7_task 1 = .ok (.iload_n 1, 1) := by decide +kernel
theorem dX7_task_2 : decode cX7_task 2 = .ok (.invokevirtual 74, 3) := by decide +kernel
theorem dX7_task_5 : decode cX7_task 5 = .ok (.astore 5, 2) := by decide +kernel
theorem dX7_task_7 : decode cX7_task 7 = .ok (.aload_n 0, 1) := by decide +kernel
theorem dX7_task_8 : decode cX7_task 8 = .ok (.iload_n 2, 1) := by decide +kernel
theorem dX7_task_9 : decode cX7_task 9 = .ok (.invokevirtual 103, 3) := by decide +kernel
theorem dX7_task_12 : decode cX7_task 12 = .ok (.astore 6, 2) := by decide +kernel
theorem dX7_task_14 : decode cX7_task 14 = .ok (.aload_n 0, 1) := by decide +kernel
theorem dX7_task_15 : decode cX7_task 15 = .ok (.iload_n 3, 1) := by decide +kernel
theorem dX7_task_16 : decode cX7_task 16 = .ok (.invokevirtual 74, 3) := by decide +kernel
theorem dX7_task_19 : decode cX7_task 19 = .ok (.astore 7, 2) := by decide +kernel
theorem dX7_task_21 : decode cX7_task 21 = .ok (.iload 4, 2) := by decide +kernel
theorem dX7_task_23 : decode cX7_task 23 = .ok (.iconst 0, 1) := by decide +kernel
theorem dX7_task_24 : decode cX7_task 24 = .ok (.sipush 10000, 3) := by decide +kernel
theorem dX7_task_27 : decode cX7_task 27 = .ok (.invokestatic 55, 3) := by decide +kernel
theorem dX7_task_30 : decode cX7_task 30 = .ok (.aload_n 0, 1) := by decide +kernel
theorem dX7_task_31 : decode cX7_task 31 = .ok (.aload 5, 2) := by decide +kernel
theorem dX7_task_33 : decode cX7_task 33 = .ok (.invokevirtual 120, 3) := by decide +kernel
theorem dX7_task_36 : decode cX7_task 36 = .ok (.aload 6, 2) := by decide +kernel
theorem dX7_task_38 : decode cX7_task 38 = .ok (.invokestatic 107, 3) := by decide +kernel
theorem dX7_task_41 : decode cX7_task 41 = .ok (.aload_n 0, 1) := by decide +kernel
theorem dX7_task_42 : decode cX7_task 42 = .ok (.getfield 34, 3) := by decide +kernel
theorem dX7_task_45 : decode cX7_task 45 = .ok (.invokevirtual 59, 3) := by decide +kernel
theorem dX7_task_48 : decode cX7_task 48 = .ok (.bipush 60, 2) := by decide +kernel
theorem dX7_task_50 : decode cX7_task 50 = .ok (.invokestatic 63, 3) := by decide +kernel
theorem dX7_task_53 : decode cX7_task 53 = .ok (.new 181, 3) := by decide +kernel
theorem dX7_task_56 : decode cX7_task 56 = .ok (.dup, 1) := by decide +kernel
theorem dX7_task_57 : decode cX7_task 57 = .ok (.aload_n 0, 1) := by decide +kernel
theorem dX7_task_58 : decode cX7_task 58 = .ok (.getfield 34, 3) := by decide +kernel
theorem dX7_task_61 : decode cX7_task 61 = .ok (.invokevirtual 59, 3) := by decide +kernel
theorem dX7_task_64 : decode cX7_task 64 = .ok (.aload 6, 2) := by decide +kernel
theorem dX7_task_66 : decode cX7_task 66 = .ok (.aload 7, 2) := by decide +kernel
theorem dX7_task_68 : decode cX7_task 68 = .ok (.aload_n 0, 1) := by decide +kernel
theorem dX7_task_69 : decode cX7_task 69 = .ok (.getfield 51, 3) := by decide +kernel
theorem dX7_task_72 : decode cX7_task 72 = .ok (.iload 4, 2) := by decide +kernel
theorem dX7_task_74 : decode cX7_task 74 = .ok (.iadd, 1) := by decide +kernel
theorem dX7_task_75 : decode cX7_task 75 = .ok (.invokespecial 183, 3) := by decide +kernel
theorem dX7_task_78 : decode cX7_task 78 = .ok (.astore 8, 2) := by decide +kernel
theorem dX7_task_80 : decode cX7_task 80 = .ok (.aload_n 0, 1) := by decide +kernel
theorem dX7_task_81 : decode cX7_task 81 = .ok (.getfield 34, 3) := by decide +kernel
theorem dX7_task_84 : decode cX7_task 84 = .ok (.aload 8, 2) := by decide +kernel
theorem dX7_task_86 : decode cX7_task 86 = .ok (.invokevirtual 21, 3) := by decide +kernel
theorem dX7_task_89 : decode cX7_task 89 = .ok (.pop, 1) := by decide +kernel
theorem dX7_task_90 : decode cX7_task 90 = .ok (.aload 8, 2) := by decide +kernel
theorem dX7_task_92 : decode cX7_task 92 = .ok (.getfield 186, 3) := by decide +kernel
theorem dX7_task_95 : decode cX7_task 95 = .ok (.ireturn, 1) := by decide +kernel
set_option maxHeartbeats 4000000 in
set_option maxRecDepth 100000 in
theorem c_X7_task (l : Launch) (E : State) (G : kG) (S T : kSt) (o : Int64) (ad : kAd) (xu xm xw xh : Int32) (hE : kE l E G) (hS : okN S) (hL : okL S) (hh0 : ∃ h, h ≤ 512000 ∧ S.1 0 0 = nI h) (hvr : ∀ j, ∃ v, v ≤ 512 ∧ S.1 7 j = nI v) : vx_Met l yX7_task (.code yX7_task cX7_task 9 (some .int) :: wsL_law) ({ frames := 14, cells := 20, slots := 400, locals := 400 } : Room) (va_Pc [.ref (ad 0 0), .int xu, .int xm, .int xw, .int xh] (kPre E G ad (cto G S T o ad))) (kQi E G (fun r ad1 ct1 => (cTask S xu xm xw xh = 0 ∧ r = nI (S.2 0 3)) ∧ AK ad ad1 ∧ ∃ cap : Nat, capok (S.2 0 3) cap ∧ ct1 = cto G (gT S xm xw xh cap) T o ad1)) (kXC E G (fun x ad1 ct1 => ((cTask S xu xm xw xh = 1 ∧ x = "java/lang/IndexOutOfBoundsException") ∨ (cTask S xu xm xw xh = 2 ∧ x = "java/lang/IllegalArgumentException") ∨ (cTask S xu xm xw xh = 3 ∧ x = "java/lang/IllegalStateException")) ∧ ad = ad1 ∧ ct1 = cto G S T o ad)) 20 400 (kB E.heap.size) := by
  refine vx_ofW (cc := cX7_task) (maxL := 9) (ret := (some .int)) (by decide) rfl ?_
  intro p e s m args below meth c s₁ B hml hout hv
  obtain ⟨rfl, hM, hK, hW0⟩ := hv
  have hlocks := B.notSynchronized
  have hr := B.returns
  have Z : kZ p m c cX7_task 9 s _ wsL_law RX7 E G := ⟨⟨B.exec, B.bytes, hml, findClass_of_methodNamed B.named, fun w h => atoms_spec (ws := .code yX7_task cX7_task 9 (some .int) :: wsL_law) B.pre w (List.mem_cons_of_mem _ h)⟩, hM, hK⟩
  have hx := Z.1.1
  have hb := Z.1.2.1
  have X := kX.of hW0
  have hl := lv_entry ([.ref (ad 0 0), .int xu, .int xm, .int xw, .int xh]) (n := 9) (Nat.le_of_ble_eq_true rfl)
  rw [lg_entry_eq]
  generalize (lg_sl ([.ref (ad 0 0), .int xu, .int xm, .int xw, .int xh]) ++ List.replicate (9 - (lg_sl ([.ref (ad 0 0), .int xu, .int xm, .int xw, .int xh])).length) Slot.unset).toArray = ls at hl ⊢
  have hl : lv_has ls 9 [(0, .ref (ad 0 0)), (1, .int xu), (2, .int xm), (3, .int xw), (4, .int xh)] := hl
  obtain ⟨hT1, hT2, hT3, hT4, hT5, hT6, hT7⟩ := id hS
  refine lv_aload_n hx hb dX7_task_0 rfl (lv_at hl 0 rfl) ?_
  refine lv_iload_n hx hb dX7_task_1 rfl (lv_at hl 1 rfl) ?_
  refine k_xRq X (k_xrunV (As := [.int xu]) (rest := []) Z X (c_X7_userAt l E G S T o ad xu hE hS hL) (k_cwV 1 Z.1.2.2.2.2 (inU_7 _ (List.mem_of_getElem? (i := 18) rfl)) (inU_7 _ (List.mem_of_getElem? (i := 19) rfl)) (inU_7 _ (List.mem_of_getElem? (i := 20) rfl)) (inU_1 _ (List.mem_of_getElem? (i := 2) rfl)) (inU_7 _ (List.mem_of_getElem? (i := 21) rfl)) rfl rfl (by decide +kernel) ⟨Nat.le_of_ble_eq_true rfl, Nat.le_of_ble_eq_true rfl⟩) (k_recv Z X ct_0 rfl) rfl hl.1 rfl (Nat.le_of_ble_eq_true rfl) dX7_task_2 ⟨(Nat.le_of_ble_eq_true rfl), (Nat.le_of_ble_eq_true rfl)⟩) (fun x ce q9 ad1 ct1 H locs hp X x1 x2 x3 => ?_) (fun r_2 ad1 ct1 H locs hp X => ?_)
  · obtain ⟨⟨rfl, hq⟩, ha_, hb_⟩ := hp
    rw [← ha_, hb_] at X
    have hk : cTask S xu xm xw xh = 1 := by simp [cTask, hq]
    exact k_out hout hlocks X x1 x2 x3 ⟨Or.inl ⟨hk, rfl⟩, rfl, rfl⟩ (Nat.le_of_ble_eq_true rfl) (Nat.le_of_ble_eq_true rfl)
  obtain ⟨⟨ju, hju, rfl, rfl⟩, ha_, hb_⟩ := hp
  rw [← ha_, hb_] at X
  have q_u : inB (nI ju) (S.2 0 0) = true := inB_nI hju (by omega)
  have hcu : cl (nI ju) = ju := nI_clamp (by omega)
  refine lv_astore (lv' := [(5, .ref (ad 4 ju)), (0, .ref (ad 0 0)), (1, .int (nI ju)), (2, .int xm), (3, .int xw), (4, .int xh)]) hx hb dX7_task_5 hl (by decide) rfl (fun ls hl => ?_)
  refine lv_aload_n hx hb dX7_task_7 rfl (lv_at hl 1 rfl) ?_
  refine lv_iload_n hx hb dX7_task_8 rfl (lv_at hl 3 rfl) ?_
  refine k_xRq X (k_xrunV (As := [.int xm]) (rest := []) Z X (c_X7_messageAt l E G S T o ad xm hE hS hL) (k_cwV 1 Z.1.2.2.2.2 (inU_11 _ (List.mem_of_getElem? (i := 4) rfl)) (inU_11 _ (List.mem_of_getElem? (i := 5) rfl)) (inU_11 _ (List.mem_of_getElem? (i := 6) rfl)) (inU_1 _ (List.mem_of_getElem? (i := 2) rfl)) (inU_11 _ (List.mem_of_getElem? (i := 7) rfl)) rfl rfl (by decide +kernel) ⟨Nat.le_of_ble_eq_true rfl, Nat.le_of_ble_eq_true rfl⟩) (k_recv Z X ct_0 rfl) rfl hl.1 rfl (Nat.le_of_ble_eq_true rfl) dX7_task_9 ⟨(Nat.le_of_ble_eq_true rfl), (Nat.le_of_ble_eq_true rfl)⟩) (fun x ce q9 ad1 ct1 H locs hp X x1 x2 x3 => ?_) (fun r_9 ad1 ct1 H locs hp X => ?_)
  · obtain ⟨⟨rfl, hq⟩, ha_, hb_⟩ := hp
    rw [← ha_, hb_] at X
    have hk : cTask S (nI ju) xm xw xh = 1 := by simp [cTask, q_u, hcu, hq]
    exact k_out hout hlocks X x1 x2 x3 ⟨Or.inl ⟨hk, rfl⟩, rfl, rfl⟩ (Nat.le_of_ble_eq_true rfl) (Nat.le_of_ble_eq_true rfl)
  obtain ⟨⟨jm, hjm, rfl, rfl⟩, ha_, hb_⟩ := hp
  rw [← ha_, hb_] at X
  have q_m : inB (nI jm) (S.2 0 1) = true := inB_nI hjm (by omega)
  have hcm : cl (nI jm) = jm := nI_clamp (by omega)
  have h5m := hT5 jm hjm
  refine lv_astore (lv' := [(6, .ref (ad 5 jm)), (5, .ref (ad 4 ju)), (0, .ref (ad 0 0)), (1, .int (nI ju)), (2, .int (nI jm)), (3, .int xw), (4, .int xh)]) hx hb dX7_task_12 hl (by decide) rfl (fun ls hl => ?_)
  refine lv_aload_n hx hb dX7_task_14 rfl (lv_at hl 2 rfl) ?_
  refine lv_iload_n hx hb dX7_task_15 rfl (lv_at hl 5 rfl) ?_
  refine k_xRq X (k_xrunV (As := [.int xw]) (rest := []) Z X (c_X7_userAt l E G S T o ad xw hE hS hL) (k_cwV 1 Z.1.2.2.2.2 (inU_7 _ (List.mem_of_getElem? (i := 18) rfl)) (inU_7 _ (List.mem_of_getElem? (i := 19) rfl)) (inU_7 _ (List.mem_of_getElem? (i := 20) rfl)) (inU_1 _ (List.mem_of_getElem? (i := 2) rfl)) (inU_7 _ (List.mem_of_getElem? (i := 21) rfl)) rfl rfl (by decide +kernel) ⟨Nat.le_of_ble_eq_true rfl, Nat.le_of_ble_eq_true rfl⟩) (k_recv Z X ct_0 rfl) rfl hl.1 rfl (Nat.le_of_ble_eq_true rfl) dX7_task_16 ⟨(Nat.le_of_ble_eq_true rfl), (Nat.le_of_ble_eq_true rfl)⟩) (fun x ce q9 ad1 ct1 H locs hp X x1 x2 x3 => ?_) (fun r_16 ad1 ct1 H locs hp X => ?_)
  · obtain ⟨⟨rfl, hq⟩, ha_, hb_⟩ := hp
    rw [← ha_, hb_] at X
    have hk : cTask S (nI ju) (nI jm) xw xh = 1 := by simp [cTask, q_u, hcu, q_m, hcm, hq]
    exact k_out hout hlocks X x1 x2 x3 ⟨Or.inl ⟨hk, rfl⟩, rfl, rfl⟩ (Nat.le_of_ble_eq_true rfl) (Nat.le_of_ble_eq_true rfl)
  obtain ⟨⟨jw, hjw, rfl, rfl⟩, ha_, hb_⟩ := hp
  rw [← ha_, hb_] at X
  have q_w : inB (nI jw) (S.2 0 0) = true := inB_nI hjw (by omega)
  have hcw : cl (nI jw) = jw := nI_clamp (by omega)
  refine lv_astore (lv' := [(7, .ref (ad 4 jw)), (6, .ref (ad 5 jm)), (5, .ref (ad 4 ju)), (0, .ref (ad 0 0)), (1, .int (nI ju)), (2, .int (nI jm)), (3, .int (nI jw)), (4, .int xh)]) hx hb dX7_task_19 hl (by decide) rfl (fun ls hl => ?_)
  refine lv_iload hx hb dX7_task_21 (lv_at hl 7 rfl) ?_
  refine lv_iconst (v := 0) hx hb dX7_task_23 (by decide) ?_
  refine lv_sipush (v := 10000) hx hb dX7_task_24 (by decide) ?_
  refine k_xRv X (k_xrunS (As := [.int xh, .int 0, .int 10000]) (rest := []) Z X (c_X7_checkRange l E G S T o ad xh 0 10000 hE) (k_cwS 3 Z.1.2.2.2.2 (inU_6 _ (List.mem_of_getElem? (i := 16) rfl)) (inU_6 _ (List.mem_of_getElem? (i := 17) rfl)) (inU_1 _ (List.mem_of_getElem? (i := 2) rfl)) (inU_6 _ (List.mem_of_getElem? (i := 18) rfl)) rfl rfl (by decide +kernel) ⟨Nat.le_of_ble_eq_true rfl, Nat.le_of_ble_eq_true rfl⟩) rfl hl.1 rfl (Nat.le_of_ble_eq_true rfl) dX7_task_27 ⟨(Nat.le_of_ble_eq_true rfl), (Nat.le_of_ble_eq_true rfl)⟩) (fun x ce q9 ad1 ct1 H locs hp X x1 x2 x3 => ?_) (fun ad1 ct1 H locs hp X => ?_)
  · obtain ⟨⟨rfl, hq⟩, ha_, hb_⟩ := hp
    rw [← ha_, hb_] at X
    have hk : cTask S (nI ju) (nI jm) (nI jw) xh = 2 := by simp [cTask, q_u, hcu, q_m, hcm, q_w, hcw, hq]
    exact k_out hout hlocks X x1 x2 x3 ⟨Or.inr (Or.inl ⟨hk, rfl⟩), rfl, rfl⟩ (Nat.le_of_ble_eq_true rfl) (Nat.le_of_ble_eq_true rfl)
  obtain ⟨q_r, ha_, hb_⟩ := hp
  rw [← ha_, hb_] at X
  refine lv_aload_n hx hb dX7_task_30 rfl (lv_at hl 3 rfl) ?_
  refine lv_aload hx hb dX7_task_31 (lv_at hl 2 rfl) ?_
  refine k_xRv X (k_xrunV (As := [.ref (ad 4 ju)]) (rest := []) Z X (c_X7_refuseGone l E G S T o ad ju hE hju) (k_cwV 1 Z.1.2.2.2.2 (inU_11 _ (List.mem_of_getElem? (i := 13) rfl)) (inU_11 _ (List.mem_of_getElem? (i := 14) rfl)) (inU_11 _ (List.mem_of_getElem? (i := 15) rfl)) (inU_1 _ (List.mem_of_getElem? (i := 2) rfl)) (inU_11 _ (List.mem_of_getElem? (i := 16) rfl)) rfl rfl (by decide +kernel) ⟨Nat.le_of_ble_eq_true rfl, Nat.le_of_ble_eq_true rfl⟩) (k_recv Z X ct_0 rfl) rfl hl.1 rfl (Nat.le_of_ble_eq_true rfl) dX7_task_33 ⟨(Nat.le_of_ble_eq_true rfl), (Nat.le_of_ble_eq_true rfl)⟩) (fun x ce q9 ad1 ct1 H locs hp X x1 x2 x3 => ?_) (fun ad1 ct1 H locs hp X => ?_)
  · obtain ⟨⟨rfl, hq⟩, ha_, hb_⟩ := hp
    rw [← ha_, hb_] at X
    have hk : cTask S (nI ju) (nI jm) (nI jw) xh = 3 := by simp [cTask, q_u, hcu, q_m, hcm, q_w, hcw, q_r, hq]
    exact k_out hout hlocks X x1 x2 x3 ⟨Or.inr (Or.inr ⟨hk, rfl⟩), rfl, rfl⟩ (Nat.le_of_ble_eq_true rfl) (Nat.le_of_ble_eq_true rfl)
  obtain ⟨q_g, ha_, hb_⟩ := hp
  rw [← ha_, hb_] at X
  refine lv_aload hx hb dX7_task_36 (lv_at hl 1 rfl) ?_
  refine k_xRv X (k_xrunS (As := [.ref (ad 5 jm)]) (rest := []) Z X (c_X7_refuseArchived l E G S T o ad jm hE hjm) (k_cwS 1 Z.1.2.2.2.2 (inU_11 _ (List.mem_of_getElem? (i := 9) rfl)) (inU_11 _ (List.mem_of_getElem? (i := 10) rfl)) (inU_1 _ (List.mem_of_getElem? (i := 2) rfl)) (inU_11 _ (List.mem_of_getElem? (i := 11) rfl)) rfl rfl (by decide +kernel) ⟨Nat.le_of_ble_eq_true rfl, Nat.le_of_ble_eq_true rfl⟩) rfl hl.1 rfl (Nat.le_of_ble_eq_true rfl) dX7_task_38 ⟨(Nat.le_of_ble_eq_true rfl), (Nat.le_of_ble_eq_true rfl)⟩) (fun x ce q9 ad1 ct1 H locs hp X x1 x2 x3 => ?_) (fun ad1 ct1 H locs hp X => ?_)
  · obtain ⟨⟨rfl, hq⟩, ha_, hb_⟩ := hp
    rw [← ha_, hb_] at X
    have hk : cTask S (nI ju) (nI jm) (nI jw) xh = 3 := by simp [cTask, q_u, hcu, q_m, hcm, q_w, hcw, q_r, q_g, hq]
    exact k_out hout hlocks X x1 x2 x3 ⟨Or.inr (Or.inr ⟨hk, rfl⟩), rfl, rfl⟩ (Nat.le_of_ble_eq_true rfl) (Nat.le_of_ble_eq_true rfl)
  obtain ⟨q_a, ha_, hb_⟩ := hp
  rw [← ha_, hb_] at X
  refine lv_aload_n hx hb dX7_task_41 rfl (lv_at hl 3 rfl) ?_
  refine k_get (index := 34) (j := 4) (ad := ad) (k := 0) (i := 0) Z X ct_0 inlX7 rfl (by decide) (inU_2 _ (List.mem_of_getElem? (i := 1) rfl)) (fun _ h => h) (v := .ref (ad 1 4)) rfl dX7_task_42 ?_
  refine k_Ri X (k_runV (As := []) (rest := []) Z X (c_Jx4a65c_size_8abf5 l E G ad (cto G S T o ad) 4 _ _ (nI (S.2 0 3)) (ct_1 (by decide))) (k_cwV 0 Z.1.2.2.2.2 (inU_6 _ (List.mem_of_getElem? (i := 21) rfl)) (inU_6 _ (List.mem_of_getElem? (i := 22) rfl)) (inU_6 _ (List.mem_of_getElem? (i := 23) rfl)) (inU_1 _ (List.mem_of_getElem? (i := 17) rfl)) (inU_7 _ (List.mem_of_getElem? (i := 0) rfl)) rfl rfl (by decide +kernel) ⟨Nat.le_of_ble_eq_true rfl, Nat.le_of_ble_eq_true rfl⟩) (k_recv Z X (ct_1 (by decide)) rfl) rfl hl.1 rfl (Nat.le_of_ble_eq_true rfl) dX7_task_45 ⟨(by first | exact Nat.le_of_ble_eq_true rfl | (show _ ≤ (_ : Nat); simp only [headSpec]; omega)), (by first | exact Nat.le_of_ble_eq_true rfl | (show _ ≤ (_ : Nat); simp only [headSpec]; omega))⟩) (fun r_45 ad1 ct1 H locs hp X => ?_)
  obtain ⟨rfl, ha_, hb_⟩ := hp
  rw [← ha_, hb_] at X
  refine lv_bipush (v := 60) hx hb dX7_task_48 (by decide) ?_
  refine k_xRv X (k_xrunS (As := [.int (nI (S.2 0 3)), .int 60]) (rest := []) Z X (c_X7_refuseFull l E G S T o ad (S.2 0 3) 60 hE (by omega) (by decide)) (k_cwS 2 Z.1.2.2.2.2 (inU_7 _ (List.mem_of_getElem? (i := 1) rfl)) (inU_7 _ (List.mem_of_getElem? (i := 2) rfl)) (inU_1 _ (List.mem_of_getElem? (i := 2) rfl)) (inU_7 _ (List.mem_of_getElem? (i := 3) rfl)) rfl rfl (by decide +kernel) ⟨Nat.le_of_ble_eq_true rfl, Nat.le_of_ble_eq_true rfl⟩) rfl hl.1 rfl (Nat.le_of_ble_eq_true rfl) dX7_task_50 ⟨(Nat.le_of_ble_eq_true rfl), (Nat.le_of_ble_eq_true rfl)⟩) (fun x ce q9 ad1 ct1 H locs hp X x1 x2 x3 => ?_) (fun ad1 ct1 H locs hp X => ?_)
  · obtain ⟨⟨rfl, hq⟩, ha_, hb_⟩ := hp
    rw [← ha_, hb_] at X
    have q_n : S.2 0 3 = 60 := by omega
    have hk : cTask S (nI ju) (nI jm) (nI jw) xh = 3 := by simp [cTask, q_u, hcu, q_m, hcm, q_w, hcw, q_r, q_g, q_a, q_n]
    exact k_out hout hlocks X x1 x2 x3 ⟨Or.inr (Or.inr ⟨hk, rfl⟩), rfl, rfl⟩ (Nat.le_of_ble_eq_true rfl) (Nat.le_of_ble_eq_true rfl)
  obtain ⟨q_f, ha_, hb_⟩ := hp
  rw [← ha_, hb_] at X
  obtain ⟨h0, hh1, eh0⟩ := hh0
  obtain ⟨jh, hjh, ejh⟩ := inR_10k q_r
  obtain ⟨vv, hvv, evv⟩ := hvr jm
  have esum : S.1 0 0 + xh = nI (h0 + jh) := by rw [eh0, ejh]; exact nI_add _ _
  refine k_new (fs := [.int 0, .int 0, .null, .int 0, .null, .int 0]) (ci := 8) (ty0 := tyX5) 9 (S.2 0 3) Z X inlX5 tyX5_ok rfl (inU_14 _ (List.mem_of_getElem? (i := 21) rfl)) (inU_14 _ (List.mem_of_getElem? (i := 22) rfl)) (inU_14 _ (List.mem_of_getElem? (i := 23) rfl)) (fun j hj => by match j, hj with | 0, _ => rfl | 1, _ => rfl | 2, _ => rfl | 3, _ => rfl | 4, _ => rfl | 5, _ => rfl) (Nat.le_of_ble_eq_true rfl) (Nat.le_of_ble_eq_true rfl) dX7_task_53 (fun z H X => ?_)
  obtain ⟨adN, hadN⟩ : ∃ y, y = aup ad 9 (S.2 0 3) z := ⟨_, rfl⟩
  have eA : cto G S T o ad = cto G S T o adN := cto_ad hS (fun k i h => by rw [hadN]; exact aup_n (fun z => by rw [z.1, z.2] at h; exact Nat.lt_irrefl _ h))
  have hAK : AK ad adN := by rw [hadN]; exact AK.rf.up (by decide)
  rw [← hadN, eA] at X
  have eN : adN 9 (S.2 0 3) = z := by rw [hadN]; exact aup_s
  subst eN
  have e_0 : adN 0 0 = ad 0 0 := by rw [hadN]; exact aup_n (by omega)
  have e_1 : adN 4 ju = ad 4 ju := by rw [hadN]; exact aup_n (by omega)
  have e_2 : adN 5 jm = ad 5 jm := by rw [hadN]; exact aup_n (by omega)
  have e_3 : adN 4 jw = ad 4 jw := by rw [hadN]; exact aup_n (by omega)
  rw [← e_0, ← e_1, ← e_2, ← e_3] at hl
  refine lv_dup hx hb dX7_task_56 rfl ?_
  refine lv_aload_n hx hb dX7_task_57 rfl (lv_at hl 3 rfl) ?_
  refine k_get (index := 34) (j := 4) (ad := adN) (k := 0) (i := 0) Z X ((cup_n (by simp)).trans ct_0) inlX7 rfl (by decide) (inU_2 _ (List.mem_of_getElem? (i := 1) rfl)) (fun _ h => h) (v := .ref (adN 1 4)) rfl dX7_task_58 ?_
  refine k_Ri X (k_runV (As := []) (rest := [.ref (adN 9 (S.2 0 3)), .ref (adN 9 (S.2 0 3))]) Z X (c_Jx4a65c_size_8abf5 l E G adN (cup (cto G S T o adN) 9 (S.2 0 3) (.inr (8, [.int 0, .int 0, .null, .int 0, .null, .int 0]))) 4 _ _ (nI (S.2 0 3)) ((cup_n (by simp)).trans (ct_1 (by decide)))) (k_cwV 0 Z.1.2.2.2.2 (inU_6 _ (List.mem_of_getElem? (i := 21) rfl)) (inU_6 _ (List.mem_of_getElem? (i := 22) rfl)) (inU_6 _ (List.mem_of_getElem? (i := 23) rfl)) (inU_1 _ (List.mem_of_getElem? (i := 17) rfl)) (inU_7 _ (List.mem_of_getElem? (i := 0) rfl)) rfl rfl (by decide +kernel) ⟨Nat.le_of_ble_eq_true rfl, Nat.le_of_ble_eq_true rfl⟩) (k_recv Z X ((cup_n (by simp)).trans (ct_1 (by decide))) rfl) rfl hl.1 rfl (Nat.le_of_ble_eq_true rfl) dX7_task_61 ⟨(by first | exact Nat.le_of_ble_eq_true rfl | (show _ ≤ (_ : Nat); simp only [headSpec]; omega)), (by first | exact Nat.le_of_ble_eq_true rfl | (show _ ≤ (_ : Nat); simp only [headSpec]; omega))⟩) (fun r_61 ad1 ct1 H locs hp X => ?_)
  obtain ⟨rfl, ha_, hb_⟩ := hp
  rw [← ha_, hb_] at X
  refine lv_aload hx hb dX7_task_64 (lv_at hl 1 rfl) ?_
  refine lv_aload hx hb dX7_task_66 (lv_at hl 0 rfl) ?_
  refine lv_aload_n hx hb dX7_task_68 rfl (lv_at hl 3 rfl) ?_
  refine k_get (index := 51) (j := 7) (ad := adN) (k := 0) (i := 0) Z X ((cup_n (by simp)).trans ct_0) inlX7 rfl (by decide) (inU_2 _ (List.mem_of_getElem? (i := 10) rfl)) (fun _ h => h) (v := .int (S.1 0 0)) rfl dX7_task_69 ?_
  refine lv_iload hx hb dX7_task_72 (lv_at hl 7 rfl) ?_
  refine lv_iadd hx hb dX7_task_74 ?_
  refine lv_topi (fun x_74 e_74 => ?_)
  obtain rfl : x_74 = nI (h0 + jh) := e_74.trans (esum)
  refine k_Rv X (k_runI (As := [.int (nI (S.2 0 3)), .ref (adN 5 jm), .ref (adN 4 jw), .int (nI (h0 + jh))]) (rest := [.ref (adN 9 (S.2 0 3))]) Z X (c_X5_init l E G adN (cup (cto G S T o adN) 9 (S.2 0 3) (.inr (8, [.int 0, .int 0, .null, .int 0, .null, .int 0]))) hE (S.2 0 3) (S.2 0 3) jm jw vv (h0 + jh) (by omega) hvv (by omega) (by omega) _ _ _ _ _ _ _ _ cup_s (by rw [← evv]; exact (cup_n (by simp)).trans (ct_5 hjm)) ((cup_n (by simp)).trans (ct_4 hjw)) ((cup_n (by simp)).trans (by simp only [cto])) ((cup_n (by simp)).trans (by simp only [cto]))) (k_cwI 4 Z.1.2.2.2.2 (inU_15 _ (List.mem_of_getElem? (i := 1) rfl)) (inU_15 _ (List.mem_of_getElem? (i := 2) rfl)) (inU_14 _ (List.mem_of_getElem? (i := 23) rfl)) (inU_15 _ (List.mem_of_getElem? (i := 3) rfl)) rfl rfl rfl (by decide +kernel) ⟨Nat.le_of_ble_eq_true rfl, Nat.le_of_ble_eq_true rfl⟩) rfl hl.1 rfl (Nat.le_of_ble_eq_true rfl) dX7_task_75 ⟨(by first | exact Nat.le_of_ble_eq_true rfl | (show _ ≤ (_ : Nat); simp only [headSpec]; omega)), (by first | exact Nat.le_of_ble_eq_true rfl | (show _ ≤ (_ : Nat); simp only [headSpec]; omega))⟩) (fun ad1 ct1 H locs hp X => ?_)
  obtain ⟨z1, z2, hp1, hp2⟩ := hp
  obtain ⟨adM, hadM⟩ : ∃ y, y = aup (aup adN 10 (S.2 0 3) z1) 11 (S.2 0 3) z2 := ⟨_, rfl⟩
  have m11 : adM 11 (S.2 0 3) = z2 := by rw [hadM]; exact aup_s
  have m10 : adM 10 (S.2 0 3) = z1 := by rw [hadM]; exact (aup_n (by omega)).trans aup_s
  have mk : ∀ k i, ¬ (k = 10 ∧ i = S.2 0 3) → ¬ (k = 11 ∧ i = S.2 0 3) → adM k i = adN k i := fun k i h1 h2 => by rw [hadM]; exact (aup_n h2).trans (aup_n h1)
  have eB : cto G S T o adN = cto G S T o adM := cto_ad hS (fun k i h => mk k i (fun z => by rw [z.1, z.2] at h; exact Nat.lt_irrefl _ h) (fun z => by rw [z.1, z.2] at h; exact Nat.lt_irrefl _ h))
  have hAK : AK ad adM := by rw [hadM]; exact (hAK.up (by decide)).up (by decide)
  have b9 : adM 9 (S.2 0 3) = adN 9 (S.2 0 3) := mk _ _ (by omega) (by omega)
  have b4 : adM 4 jw = adN 4 jw := mk _ _ (by omega) (by omega)
  have bu : adM 4 ju = adN 4 ju := mk _ _ (by omega) (by omega)
  have bm : adM 5 jm = adN 5 jm := mk _ _ (by omega) (by omega)
  have b0 : adM 0 0 = adN 0 0 := mk _ _ (by omega) (by omega)
  have X : kX E G s H locs adM (cup (cup (cup (cto G S T o adM) 11 (S.2 0 3) (.inl (G.2.1, (txt jm vv jw (h0 + jh)).length, .inl (txF (txt jm vv jw (h0 + jh)))))) 10 (S.2 0 3) (.inr (0, [.ref (adM 11 (S.2 0 3)), .int 0, .int 0, .int 0]))) 9 (S.2 0 3) (.inr (8, [.int (nI (S.2 0 3)), .int (nI jm), .ref (adM 4 jw), .int (nI (h0 + jh)), .ref (adM 10 (S.2 0 3)), .int 0]))) := kXz X (hp1.trans hadM.symm) (by rw [hp2, eB, m11, m10, b4]; exact in4)
  rw [← b0, ← b4, ← bu, ← bm] at hl
  refine W.eq (congrArg (fun y => F0 m 78 ls [.ref y]) b9.symm) ?_
  refine lv_astore (lv' := [(8, .ref (adM 9 (S.2 0 3))), (7, .ref (adM 4 jw)), (6, .ref (adM 5 jm)), (5, .ref (adM 4 ju)), (0, .ref (adM 0 0)), (1, .int (nI ju)), (2, .int (nI jm)), (3, .int (nI jw)), (4, .int xh)]) hx hb dX7_task_78 hl (by decide) rfl (fun ls hl => ?_)
  refine lv_aload_n hx hb dX7_task_80 rfl (lv_at hl 4 rfl) ?_
  refine k_get (index := 34) (j := 4) (ad := adM) (k := 0) (i := 0) Z X ((cup_n (by simp)).trans ((cup_n (by simp)).trans ((cup_n (by simp)).trans ct_0))) inlX7 rfl (by decide) (inU_2 _ (List.mem_of_getElem? (i := 1) rfl)) (fun _ h => h) (v := .ref (adM 1 4)) rfl dX7_task_81 ?_
  refine lv_aload hx hb dX7_task_84 (lv_at hl 0 rfl) ?_
  refine k_Ri X (k_runV (As := [.ref (adM 9 (S.2 0 3))]) (rest := []) Z X (c_Jx4a65c_add_9ea2d l E G adM (cup (cup (cup (cto G S T o adM) 11 (S.2 0 3) (.inl (G.2.1, (txt jm vv jw (h0 + jh)).length, .inl (txF (txt jm vv jw (h0 + jh)))))) 10 (S.2 0 3) (.inr (0, [.ref (adM 11 (S.2 0 3)), .int 0, .int 0, .int 0]))) 9 (S.2 0 3) (.inr (8, [.int (nI (S.2 0 3)), .int (nI jm), .ref (adM 4 jw), .int (nI (h0 + jh)), .ref (adM 10 (S.2 0 3)), .int 0]))) hE 4 (S.2 0 3) 9 8 (fun j => if j < S.2 0 3 then some (adM 9 j) else none) (RX5, TX5, 6) (S.1 19 4) (if S.2 6 4 = 0 then G.2.2.2.2.2.2 else adM 2 4) (S.2 0 3) [.int (nI (S.2 0 3)), .int (nI jm), .ref (adM 4 jw), .int (nI (h0 + jh)), .ref (adM 10 (S.2 0 3)), .int 0] rfl (List.mem_of_getElem? (i := 11) rfl) ((cup_n (by simp)).trans ((cup_n (by simp)).trans ((cup_n (by simp)).trans (ct_1 (by decide))))) cup_s (by omega) ⟨by decide, by decide, by decide⟩ (kEl_of (fun j hj => ⟨_, (cup_n (fun z => by omega)).trans ((cup_n (by simp)).trans ((cup_n (by simp)).trans (ct_9 hj)))⟩)) ((cup_n (by simp)).trans ((cup_n (by simp)).trans ((cup_n (by simp)).trans cto_98))) (S.2 6 4) (hd_of (S := S) (T := T) (o := o) (ad := adM) (li := 4) hL (by decide) ((cup_n (by simp)).trans ((cup_n (by simp)).trans (cup_n (by simp))))) (fun j h => if_neg (by omega))) (k_cwV 1 Z.1.2.2.2.2 (inU_3 _ (List.mem_of_getElem? (i := 7) rfl)) (inU_3 _ (List.mem_of_getElem? (i := 8) rfl)) (inU_3 _ (List.mem_of_getElem? (i := 9) rfl)) (inU_1 _ (List.mem_of_getElem? (i := 17) rfl)) (inU_3 _ (List.mem_of_getElem? (i := 10) rfl)) rfl rfl (by decide +kernel) ⟨Nat.le_of_ble_eq_true rfl, Nat.le_of_ble_eq_true rfl⟩) (k_recv Z X ((cup_n (by simp)).trans ((cup_n (by simp)).trans ((cup_n (by simp)).trans (ct_1 (by decide))))) rfl) rfl hl.1 rfl (Nat.le_of_ble_eq_true rfl) dX7_task_86 ⟨(by first | exact Nat.le_of_ble_eq_true rfl | (show _ ≤ (_ : Nat); simp only [headSpec]; omega)), (by first | exact Nat.le_of_ble_eq_true rfl | (show _ ≤ (_ : Nat); simp only [headSpec]; omega))⟩) (fun r_86 ad1 ct1 H locs hp X => ?_)
  obtain ⟨rfl, z, cap, kc1, kc2, kc3, hp1, hp2⟩ := hp
  obtain ⟨ad2, had2⟩ : ∃ y, y = aup adM 2 4 z := ⟨_, rfl⟩
  have e2z : ad2 2 4 = z := by rw [had2]; exact aup_s
  have e2 : ∀ k i, ¬ (k = 2 ∧ i = 4) → ad2 k i = adM k i := fun k i h => by rw [had2]; exact aup_n h
  have hAK2 : AK ad ad2 := by rw [had2]; exact hAK.up (by decide)
  have e2k4 : ∀ j, ad2 4 j = adM 4 j := fun j => e2 4 j (by omega)
  have e2k9 : ∀ j, ad2 9 j = adM 9 j := fun j => e2 9 j (by omega)
  have e2k10 : ∀ j, ad2 10 j = adM 10 j := fun j => e2 10 j (by omega)
  have e2k11 : ∀ j, ad2 11 j = adM 11 j := fun j => e2 11 j (by omega)
  have hg := gT_grow (G := G) (S := S) (T := T) (o := o) (ad := ad2) (cap := cap) (nI jm) (nI jw) xh (by omega)
  rw [gT_lab, hcm, hcw, evv, esum, show (nI vv).toNatClampNeg = vv from nI_clamp (by omega), show (nI (h0 + jh)).toNatClampNeg = h0 + jh from nI_clamp (by omega)] at hg
  have X : kX E G s H locs ad2 (cto G (gT S (nI jm) (nI jw) xh cap) T o ad2) := kXz X (hp1.trans had2.symm) (by
    refine hp2.trans (Eq.trans ?_ (hg))
    rw [e2z]
    simp only [e2k4, e2k9, e2k10, e2k11]
    exact (((((cto_adp (S := S) hS (fun k i _ h => e2 k i h)).cp).cp).cp).cp).fin)
  have f_0 : ad2 0 0 = adM 0 0 := e2 _ _ (by omega)
  have f_1 : ad2 9 (S.2 0 3) = adM 9 (S.2 0 3) := e2 _ _ (by omega)
  rw [← f_0, ← f_1] at hl
  refine lv_pop hx hb dX7_task_89 rfl ?_
  refine lv_aload hx hb dX7_task_90 (lv_at hl 0 rfl) ?_
  refine k_get (index := 186) (j := 0) (ad := ad2) (k := 9) (i := (S.2 0 3)) Z X (ct_9 (show S.2 0 3 < (gT S (nI jm) (nI jw) xh cap).2 0 3 from Nat.lt_succ_self _)) inlX5 rfl (by decide) (inU_15 _ (List.mem_of_getElem? (i := 0) rfl)) (fun _ h => h) (v := .int (nI (S.2 0 3))) rfl dX7_task_92 ?_
  have hk : cTask S (nI ju) (nI jm) (nI jw) xh = 0 := by simp [cTask, q_u, hcu, q_m, hcm, q_w, hcw, q_r, q_g, q_a, q_f, (show ¬ S.2 0 3 = 60 by omega)]
  exact vx_ret (k_iret Z X hr hlocks rfl (Nat.le_of_ble_eq_true rfl) (Nat.le_of_ble_eq_true rfl) dX7_task_95 ⟨⟨hk, rfl⟩, hAK2, cap, ⟨kc1, kc2, kc3⟩, rfl⟩)
theorem lab_len (S : kSt) (t : Nat) : (lab S t).length < 100 := by
  have h1 := dgs_len 20 (S.2 4 t)
  have h2 := dgs_len 20 (S.1 20 t).toNatClampNeg
  have h3 := dgs_len 20 (S.2 5 t)
  have h4 := dgs_len 20 (S.1 13 t).toNatClampNeg
  simp only [lab, List.length_append, List.length_cons]
  omega
theorem dX7_label_0 : decode cX7_label 0 = .ok (.aload_n 0, 1) := by decide +kernel
theorem dX7_label_1 : decode cX7_label 1 = .ok (.iload_n 1, 1) := by decide +kernel
theorem dX7_label_2 : decode cX7_label 2 = .ok (.invokevirtual 187, 3) := by decide +kernel
theorem dX7_label_5 : decode cX7_label 5 = .ok (.getfield 264, 3) := by decide +kernel
theorem dX7_label_8 : decode cX7_label 8 = .ok (.astore_n 3, 1) := by decide +kernel
theorem dX7_label_9 : decode cX7_label 9 = .ok (.iload_n 2, 1) := by decide +kernel
theorem dX7_label_10 : decode cX7_label 10 = .ok (.ifCond .ge 14, 3) := by decide +kernel
theorem dX7_label_13 : decode cX7_label 13 = .ok (.new 251, 3) := by decide +kernel
theorem dX7_label_16 : decode cX7_label 16 = .ok (.dup, 1) := by decide +kernel
theorem dX7_label_17 : decode cX7_label 17 = .ok (.ldc_w 268, 3) := by decide +kernel
theorem dX7_label_20 : decode cX7_label 20 = .ok (.invokespecial 255, 3) := by decide +kernel
theorem dX7_label_23 : decode cX7_label 23 = .ok (.athrow, 1) := by decide +kernel
theorem dX7_label_24 : decode cX7_label 24 = .ok (.iload_n 2, 1) := by decide +kernel
theorem dX7_label_25 : decode cX7_label 25 = .ok (.aload_n 3, 1) := by decide +kernel
theorem dX7_label_26 : decode cX7_label 26 = .ok (.invokevirtual 270, 3) := by decide +kernel
theorem dX7_label_29 : decode cX7_label 29 = .ok (.if_icmp .ge 11, 3) := by decide +kernel
theorem dX7_label_32 : decode cX7_label 32 = .ok (.aload_n 3, 1) := by decide +kernel
theorem dX7_label_33 : decode cX7_label 33 = .ok (.iload_n 2, 1) := by decide +kernel
theorem dX7_label_34 : decode cX7_label 34 = .ok (.invokevirtual 275, 3) := by decide +kernel
theorem dX7_label_37 : decode cX7_label 37 = .ok (.goto 4, 3) := by decide +kernel
theorem dX7_label_40 : decode cX7_label 40 = .ok (.iconst 0, 1) := by decide +kernel
theorem dX7_label_41 : decode cX7_label 41 = .ok (.ireturn, 1) := by decide +kernel
set_option maxHeartbeats 4000000 in
set_option maxRecDepth 100000 in
theorem c_X7_label (l : Launch) (E : State) (G : kG) (S T : kSt) (o : Int64) (ad : kAd) (xt xp : Int32) (hE : kE l E G) (hS : okN S) (hL : okL S) : vx_Met l yX7_label (.code yX7_label cX7_label 4 (some .char) :: wsL_law) ({ frames := 14, cells := 2, slots := 12, locals := 400 } : Room) (va_Pc [.ref (ad 0 0), .int xt, .int xp] (kPre E G ad (cto G S T o ad))) (kQi E G (fun r ad1 ct1 => (cLabel S xt xp = 0 ∧ r = rLabel S xt xp) ∧ ad = ad1 ∧ ct1 = cto G (S) T o ad)) (kXC E G (fun x ad1 ct1 => ((cLabel S xt xp = 1 ∧ x = "java/lang/IndexOutOfBoundsException")) ∧ ad = ad1 ∧ ct1 = cto G S T o ad)) 2 12 (kB E.heap.size) := by
  refine vx_ofW (cc := cX7_label) (maxL := 4) (ret := (some .char)) (by decide) rfl ?_
  intro p e s m args below meth c s₁ B hml hout hv
  obtain ⟨rfl, hM, hK, hW0⟩ := hv
  have hlocks := B.notSynchronized
  have hr := B.returns
  have Z : kZ p m c cX7_label 4 s _ wsL_law RX7 E G := ⟨⟨B.exec, B.bytes, hml, findClass_of_methodNamed B.named, fun w h => atoms_spec (ws := .code yX7_label cX7_label 4 (some .char) :: wsL_law) B.pre w (List.mem_cons_of_mem _ h)⟩, hM, hK⟩
  have hx := Z.1.1
  have hb := Z.1.2.1
  have X := kX.of hW0
  have hl := lv_entry ([.ref (ad 0 0), .int xt, .int xp]) (n := 4) (Nat.le_of_ble_eq_true rfl)
  rw [lg_entry_eq]
  generalize (lg_sl ([.ref (ad 0 0), .int xt, .int xp]) ++ List.replicate (4 - (lg_sl ([.ref (ad 0 0), .int xt, .int xp])).length) Slot.unset).toArray = ls at hl ⊢
  have hl : lv_has ls 4 [(0, .ref (ad 0 0)), (1, .int xt), (2, .int xp)] := hl
  obtain ⟨hT1, hT2, hT3, hT4, hT5, hT6, hT7⟩ := id hS
  refine lv_aload_n hx hb dX7_label_0 rfl (lv_at hl 0 rfl) ?_
  refine lv_iload_n hx hb dX7_label_1 rfl (lv_at hl 1 rfl) ?_
  refine k_xRq X (k_xrunV (As := [.int xt]) (rest := []) Z X (c_X7_taskAt l E G S T o ad xt hE hS hL) (k_cwV 1 Z.1.2.2.2.2 (inU_23 _ (List.mem_of_getElem? (i := 21) rfl)) (inU_23 _ (List.mem_of_getElem? (i := 22) rfl)) (inU_23 _ (List.mem_of_getElem? (i := 23) rfl)) (inU_1 _ (List.mem_of_getElem? (i := 2) rfl)) (inU_24 _ (List.mem_of_getElem? (i := 0) rfl)) rfl rfl (by decide +kernel) ⟨Nat.le_of_ble_eq_true rfl, Nat.le_of_ble_eq_true rfl⟩) (k_recv Z X ct_0 rfl) rfl hl.1 rfl (Nat.le_of_ble_eq_true rfl) dX7_label_2 ⟨(Nat.le_of_ble_eq_true rfl), (Nat.le_of_ble_eq_true rfl)⟩) (fun x ce q9 ad1 ct1 H locs hp X x1 x2 x3 => ?_) (fun r_2 ad1 ct1 H locs hp X => ?_)
  · obtain ⟨⟨rfl, hq⟩, ha_, hb_⟩ := hp
    rw [← ha_, hb_] at X
    have hk : cLabel S xt xp = 1 := by simp [cLabel, hq]
    exact k_out hout hlocks X x1 x2 x3 ⟨⟨hk, rfl⟩, rfl, rfl⟩ (Nat.le_of_ble_eq_true rfl) (Nat.le_of_ble_eq_true rfl)
  obtain ⟨⟨jt, hjt, rfl, rfl⟩, ha_, hb_⟩ := hp
  rw [← ha_, hb_] at X
  have q_t : inB (nI jt) (S.2 0 3) = true := inB_nI hjt (by omega)
  have hct : cl (nI jt) = jt := nI_clamp (by omega)
  have h7t := hT7 jt hjt
  refine k_get (index := 264) (j := 4) (ad := ad) (k := 9) (i := jt) Z X (ct_9 (by first | assumption | omega | decide)) inlX5 rfl (by decide) (inU_29 _ (List.mem_of_getElem? (i := 0) rfl)) (fun _ h => h) (v := .ref (ad 10 jt)) rfl dX7_label_5 ?_
  refine lv_astore_n (lv' := [(3, .ref (ad 10 jt)), (0, .ref (ad 0 0)), (1, .int (nI jt)), (2, .int xp)]) hx hb dX7_label_8 rfl hl (by decide) rfl (fun ls hl => ?_)
  refine lv_iload_n hx hb dX7_label_9 rfl (lv_at hl 3 rfl) ?_
  refine lv_if_ge (tgt := 24) hx hb dX7_label_10 (by decide) (fun c_10 => ?_) (fun c_10 => ?_)
  · obtain ⟨jp, hjp, rfl⟩ := nI_of (Int32.not_lt.mpr c_10)
    have hcp : cl (nI jp) = jp := nI_clamp hjp
    have hwl : (lab S jt).length < 100 := lab_len S jt
    have hch : (lab S jt).getD jp 0 < 65 := getD_lt (lab_lt S jt) (by decide) jp
    refine lv_iload_n hx hb dX7_label_24 rfl (lv_at hl 3 rfl) ?_
    refine lv_aload_n hx hb dX7_label_25 rfl (lv_at hl 0 rfl) ?_
    refine k_Ri X (k_runV (As := []) (rest := [.int (nI jp)]) Z X (c_J0_length_8abf5 l E G ad (cto G S T o ad) hE jt (lab S jt) (ct_10 hjt) (ct_11 hjt) hwl) (k_cwV 0 Z.1.2.2.2.2 (inU_29 _ (List.mem_of_getElem? (i := 1) rfl)) (inU_29 _ (List.mem_of_getElem? (i := 2) rfl)) (inU_29 _ (List.mem_of_getElem? (i := 3) rfl)) (inU_18 _ (List.mem_of_getElem? (i := 22) rfl)) (inU_29 _ (List.mem_of_getElem? (i := 4) rfl)) rfl rfl (by decide +kernel) ⟨Nat.le_of_ble_eq_true rfl, Nat.le_of_ble_eq_true rfl⟩) (k_recv Z X (ct_10 hjt) rfl) rfl hl.1 rfl (Nat.le_of_ble_eq_true rfl) dX7_label_26 ⟨(by first | exact Nat.le_of_ble_eq_true rfl | (show _ ≤ (_ : Nat); simp only [headSpec]; omega)), (by first | exact Nat.le_of_ble_eq_true rfl | (show _ ≤ (_ : Nat); simp only [headSpec]; omega))⟩) (fun r_26 ad1 ct1 H locs hp X => ?_)
    obtain ⟨rfl, ha_, hb_⟩ := hp
    rw [← ha_, hb_] at X
    refine lv_icmp_ge (tgt := 40) hx hb dX7_label_29 (by decide) (fun c_29 => ?_) (fun c_29 => ?_)
    · have c_29 : (lab S jt).length ≤ jp := (nI_leI (a := (lab S jt).length) (b := jp) (by omega) (by omega)).mp c_29
      refine lv_iconst (v := 0) hx hb dX7_label_40 (by decide) ?_
      have hk : cLabel S (nI jt) (nI jp) = 0 := by rw [cLabel, if_neg (by rw [q_t, decide_eq_true c_10]; decide)]
      exact vx_ret (k_iret Z X hr hlocks rfl (Nat.le_of_ble_eq_true rfl) (Nat.le_of_ble_eq_true rfl) dX7_label_41 ⟨⟨hk, by rw [rLabel, hct, hcp, List.getD_eq_getElem?_getD, List.getElem?_eq_none (by omega)]; rfl⟩, rfl, rfl⟩)
    · have c_29 : ¬ (lab S jt).length ≤ jp := fun h => c_29 ((nI_leI (a := (lab S jt).length) (b := jp) (by omega) (by omega)).mpr h)
      refine lv_aload_n hx hb dX7_label_32 rfl (lv_at hl 0 rfl) ?_
      refine lv_iload_n hx hb dX7_label_33 rfl (lv_at hl 3 rfl) ?_
      refine k_Ri X (k_runV (As := [.int (nI jp)]) (rest := []) Z X (c_J0_charAt_5068e l E G ad (cto G S T o ad) hE jt (lab S jt) (ct_10 hjt) (ct_11 hjt) hwl (fun c h => Nat.lt_trans (lab_lt S jt c h) (by decide)) jp (by omega)) (k_cwV 1 Z.1.2.2.2.2 (inU_29 _ (List.mem_of_getElem? (i := 9) rfl)) (inU_29 _ (List.mem_of_getElem? (i := 10) rfl)) (inU_29 _ (List.mem_of_getElem? (i := 11) rfl)) (inU_18 _ (List.mem_of_getElem? (i := 22) rfl)) (inU_29 _ (List.mem_of_getElem? (i := 12) rfl)) rfl rfl (by decide +kernel) ⟨Nat.le_of_ble_eq_true rfl, Nat.le_of_ble_eq_true rfl⟩) (k_recv Z X (ct_10 hjt) rfl) rfl hl.1 rfl (Nat.le_of_ble_eq_true rfl) dX7_label_34 ⟨(by first | exact Nat.le_of_ble_eq_true rfl | (show _ ≤ (_ : Nat); simp only [headSpec]; omega)), (by first | exact Nat.le_of_ble_eq_true rfl | (show _ ≤ (_ : Nat); simp only [headSpec]; omega))⟩) (fun r_34 ad1 ct1 H locs hp X => ?_)
      obtain ⟨rfl, ha_, hb_⟩ := hp
      rw [← ha_, hb_] at X
      refine lv_goto (tgt := 41) hx hb dX7_label_37 (by decide) ?_
      have hk : cLabel S (nI jt) (nI jp) = 0 := by rw [cLabel, if_neg (by rw [q_t, decide_eq_true c_10]; decide)]
      exact vx_ret (k_iret Z X hr hlocks (ch_nar _ (by omega)) (Nat.le_of_ble_eq_true rfl) (Nat.le_of_ble_eq_true rfl) dX7_label_41 ⟨⟨hk, by rw [rLabel, hct, hcp]⟩, rfl, rfl⟩)
  · have hk : cLabel S (nI jt) xp = 1 := by simp [cLabel, q_t, hct, c_10]
    exact k_throwW hE Z X hout hlocks hl.1 kThr_IOO (inU_7 _ (List.mem_of_getElem? (i := 22) rfl)) (inU_7 _ (List.mem_of_getElem? (i := 23) rfl)) (text := "no such place") (List.mem_of_getElem? (i := 12) rfl) dX7_label_13 dX7_label_16 dX7_label_17 dX7_label_20 dX7_label_23 (Nat.le_of_ble_eq_true rfl) ⟨(Nat.le_of_ble_eq_true rfl), (Nat.le_of_ble_eq_true rfl), (Nat.le_of_ble_eq_true rfl), (Nat.le_of_ble_eq_true rfl)⟩ ⟨(Nat.le_of_ble_eq_true rfl), (Nat.le_of_ble_eq_true rfl)⟩ ⟨(Nat.le_of_ble_eq_true rfl), (Nat.le_of_ble_eq_true rfl)⟩ ⟨⟨hk, rfl⟩, rfl, rfl⟩
