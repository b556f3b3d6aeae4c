/-! TASK: its constructor, task, label -/
def txt (a v u h : Nat) : List Nat := dgs 20 a ++ 46 :: (dgs 20 v ++ 62 :: (dgs 20 u ++ 64 :: dgs 20 h))
theorem txt_lt {a v u h c : Nat} (hc : c ∈ txt a v u h) : c < 128 := by
  simp only [txt, List.mem_append, List.mem_cons] at hc
  rcases hc with h | h | h | h | h | h | h
  · have := dgs_lt _ _ _ h; omega
  · omega
  · have := dgs_lt _ _ _ h; omega
  · omega
  · have := dgs_lt _ _ _ h; omega
  · omega
  · have := dgs_lt _ _ _ h; omega
theorem txt_len {a v u h : Nat} (ha : a < 80) (hv : v ≤ 512) (hu : u < 12) (hh : h ≤ 522000) : (txt a v u h).length ≤ 16 ∧ sb_dg a ≤ 2 ∧ sb_dg v ≤ 3 ∧ sb_dg u ≤ 2 ∧ sb_dg h ≤ 6 := by
  have d1 : sb_dg a ≤ 2 := by unfold sb_dg; (repeat' split) <;> omega
  have d2 : sb_dg v ≤ 3 := by unfold sb_dg; (repeat' split) <;> omega
  have d3 : sb_dg u ≤ 2 := by unfold sb_dg; (repeat' split) <;> omega
  have d4 : sb_dg h ≤ 6 := by unfold sb_dg; (repeat' split) <;> omega
  refine ⟨?_, d1, d2, d3, d4⟩
  simp only [txt, List.length_append, List.length_cons]
  rw [dgs_sbl (by omega), dgs_sbl (by omega), dgs_sbl (by omega), dgs_sbl (by omega)]
  omega
theorem tbl_0 {G : kG} {ad : kAd} {ct : kCt} {A : va_E} : cup (cup (cup ct 97 0 A) 96 0 (.inl (G.2.1, 16, .inl (fun _ => 0)))) 97 0 (.inr (1, [.ref (ad 96 0), .int 0, .int 0, .int 0])) = tbl G ad 0 [] ct := by
  rw [cup_sw (by simp), cup_cup]
  rfl
theorem tbl_2 {G : kG} {ad : kAd} {mb : Int32} {w w' : List Nat} {ct : kCt} {n : Nat} (h : w'.length = n) : cup (cup (tbl G ad mb w ct) 96 0 (.inl (G.2.1, 16, .inl (txF w')))) 97 0 (.inr (1, [.ref (ad 96 0), .int 0, .int mb, .int (nI n)])) = tbl G ad mb w' ct := by
  rw [cup_sw2 (by simp)]
  exact tbl_1 h
theorem tbl_drop {E : State} {G : kG} {s : State} {H : Heap} {locs : List Loc} {ad A : kAd} {ct : kCt} {mb : Int32} {w : List Nat} {i z7 z6 z1 z2 : Nat} {V0 B Sx V : va_E} (h96 : ct 96 0 = none) (h97 : ct 97 0 = none)
    (X : kX E G s H locs (aup (aup (aup (aup ad 97 0 z7) 96 0 z6) 10 i z1) 11 i z2) (cup (cup (cup (tbl G A mb w (cup ct 9 i V0)) 11 i B) 10 i Sx) 9 i V)) : kX E G s H locs (aup (aup ad 10 i z1) 11 i z2) (cup (cup (cup ct 11 i B) 10 i Sx) 9 i V) := by
  refine X.drop (fun k j e h => ?_)
  by_cases q6 : k = 96 ∧ j = 0
  · rw [q6.1, q6.2, cup_n (by simp), cup_n (by simp), cup_n (by simp), h96] at h
    cases h
  · by_cases q7 : k = 97 ∧ j = 0
    · rw [q7.1, q7.2, cup_n (by simp), cup_n (by simp), cup_n (by simp), h97] at h
      cases h
    · refine ⟨?_, ?_⟩
      · rw [← h]
        by_cases q9 : k = 9 ∧ j = i
        · rw [q9.1, q9.2, cup_s, cup_s]
        · rw [cup_n q9, cup_n q9]
          by_cases q10 : k = 10 ∧ j = i
          · rw [q10.1, q10.2, cup_s, cup_s]
          · rw [cup_n q10, cup_n q10]
            by_cases q11 : k = 11 ∧ j = i
            · rw [q11.1, q11.2, cup_s, cup_s]
            · rw [cup_n q11, cup_n q11]
              unfold tbl
              rw [cup_n q6, cup_n q7, cup_n q9]
      · by_cases q11 : k = 11 ∧ j = i
        · rw [q11.1, q11.2, aup_s, aup_s]
        · rw [aup_n q11, aup_n q11]
          by_cases q10 : k = 10 ∧ j = i
          · rw [q10.1, q10.2, aup_s, aup_s]
          · rw [aup_n q10, aup_n q10, aup_n q6, aup_n q7]
theorem dX5_init_0 : decode cX5_init 0 = .ok (.aload_n 0, 1) := by decide +kernel
theorem dX5_init_1 : decode cX5_init 1 = .ok (.invokespecial 3, 3) := by decide +kernel
theorem dX5_init_4 : decode cX5_init 4 = .ok (.aload_n 0, 1) := by decide +kernel
theorem dX5_init_5 : decode cX5_init 5 = .ok (.iload_n 1, 1) := by decide +kernel
theorem dX5_init_6 : decode cX5_init 6 = .ok (.putfield 9, 3) := by decide +kernel
theorem dX5_init_9 : decode cX5_init 9 = .ok (.aload_n 0, 1) := by decide +kernel
theorem dX5_init_10 : decode cX5_init 10 = .ok (.aload_n 2, 1) := by decide +kernel
theorem dX5_init_11 : decode cX5_init 11 = .ok (.getfield 15, 3) := by decide +kernel
theorem dX5_init_14 : decode cX5_init 14 = .ok (.putfield 18, 3) := by decide +kernel
theorem dX5_init_17 : decode cX5_init 17 = .ok (.aload_n 0, 1) := by decide +kernel
theorem dX5_init_18 : decode cX5_init 18 = .ok (.aload_n 3, 1) := by decide +kernel
theorem dX5_init_19 : decode cX5_init 19 = .ok (.putfield 21, 3) := by decide +kernel
theorem dX5_init_22 : decode cX5_init 22 = .ok (.aload_n 0, 1) := by decide +kernel
theorem dX5_init_23 : decode cX5_init 23 = .ok (.iload 4, 2) := by decide +kernel
theorem dX5_init_25 : decode cX5_init 25 = .ok (.putfield 25, 3) := by decide +kernel
theorem dX5_init_28 : decode cX5_init 28 = .ok (.aload_n 0, 1) := by decide +kernel
theorem dX5_init_29 : decode cX5_init 29 = .ok (.new 28, 3) := by decide +kernel
theorem dX5_init_32 : decode cX5_init 32 = .ok (.dup, 1) := by decide +kernel
theorem dX5_init_33 : decode cX5_init 33 = .ok (.invokespecial 30, 3) := by decide +kernel
theorem dX5_init_36 : decode cX5_init 36 = .ok (.aload_n 2, 1) := by decide +kernel
theorem dX5_init_37 : decode cX5_init 37 = .ok (.getfield 15, 3) := by decide +kernel
theorem dX5_init_40 : decode cX5_init 40 = .ok (.invokevirtual 31, 3) := by decide +kernel
theorem dX5_init_43 : decode cX5_init 43 = .ok (.bipush 46, 2) := by decide +kernel
theorem dX5_init_45 : decode cX5_init 45 = .ok (.invokevirtual 35, 3) := by decide +kernel
theorem dX5_init_48 : decode cX5_init 48 = .ok (.aload_n 2, 1) := by decide +kernel
theorem dX5_init_49 : decode cX5_init 49 = .ok (.getfield 38, 3) := by decide +kernel
theorem dX5_init_52 : decode cX5_init 52 = .ok (.invokevirtual 31, 3) := by decide +kernel
theorem dX5_init_55 : decode cX5_init 55 = .ok (.bipush 62, 2) := by decide +kernel
theorem dX5_init_57 : decode cX5_init 57 = .ok (.invokevirtual 35, 3) := by decide +kernel
theorem dX5_init_60 : decode cX5_init 60 = .ok (.aload_n 3, 1) := by decide +kernel
theorem dX5_init_61 : decode cX5_init 61 = .ok (.getfield 41, 3) := by decide +kernel
theorem dX5_init_64 : decode cX5_init 64 = .ok (.invokevirtual 31, 3) := by decide +kernel
theorem dX5_init_67 : decode cX5_init 67 = .ok (.bipush 64, 2) := by decide +kernel
theorem dX5_init_69 : decode cX5_init 69 = .ok (.invokevirtual 35, 3) := by decide +kernel
theorem dX5_init_72 : decode cX5_init 72 = .ok (.iload 4, 2) := by decide +kernel
theorem dX5_init_74 : decode cX5_init 74 = .ok (.invokevirtual 31, 3) := by decide +kernel
theorem dX5_init_77 : decode cX5_init 77 = .ok (.invokevirtual 44, 3) := by decide +kernel
theorem dX5_init_80 : decode cX5_init 80 = .ok (.putfield 48, 3) := by decide +kernel
theorem dX5_init_83 : decode cX5_init 83 = .ok (.aload_n 0, 1) := by decide +kernel
theorem dX5_init_84 : decode cX5_init 84 = .ok (.iconst 0, 1) := by decide +kernel
theorem dX5_init_85 : decode cX5_init 85 = .ok (.putfield 52, 3) := by decide +kernel
theorem dX5_init_88 : decode cX5_init 88 = .ok (.return_, 1) := by decide +kernel
set_option maxHeartbeats 4000000 in
set_option maxRecDepth 100000 in
theorem c_X5_init (l : Launch) (E : State) (G : kG) (ad : kAd) (ct : kCt) (hE : kE l E G) (i n a u9 vv hh : Nat) (ha : a < 80) (hv : vv ≤ 512) (hu : u9 < 12) (hh9 : hh ≤ 522000) (mv1 mv2 mv3 mv4 mv5 mv7 mu1 mu2 : Value) (hc : ct 9 i = some (.inr (8, [.int 0, .int 0, .null, .int 0, .null, .int 0]))) (h5 : ct 5 a = some (.inr (6, [.int (nI a), mv1, mv2, mv3, mv4, mv5, .int (nI vv), mv7]))) (h4 : ct 4 u9 = some (.inr (9, [.int (nI u9), mu1, mu2]))) (h96 : ct 96 0 = none) (h97 : ct 97 0 = none) : Met l yX5_init (.code yX5_init cX5_init 5 none :: wsL_law) ({ frames := 8, cells := 4, slots := 40, locals := 330 } : Room) (va_Pc [.ref (ad 9 i), .int (nI n), .ref (ad 5 a), .ref (ad 4 u9), .int (nI hh)] (kPre E G ad ct)) (kQv E G (fun ad1 ct1 => ∃ z1 z2 : Nat, ad1 = aup (aup ad 10 i z1) 11 i z2 ∧ ct1 = cup (cup (cup ct 11 i (.inl (G.2.1, (txt a vv u9 hh).length, .inl (txF (txt a vv u9 hh))))) 10 i (.inr (0, [.ref z2, .int 0, .int 0, .int 0]))) 9 i (.inr (8, [.int (nI n), .int (nI a), .ref (ad 4 u9), .int (nI hh), .ref z1, .int 0])))) 4 40 (kB E.heap.size) := by
  refine Met.ofW (cc := cX5_init) (maxL := 5) (ret := none) (by decide) rfl ?_
  intro p e s m args below meth c s₁ B hml hv
  obtain ⟨rfl, hM, hK, hW0⟩ := hv
  have hlocks := B.notSynchronized
  have hr := B.returns
  have hin : meth.name = "<init>" := (name_of_methodNamed B.named B.method).1
  have Z : kZ p m c cX5_init 5 s _ wsL_law RX5 E G := ⟨⟨B.exec, B.bytes, hml, findClass_of_methodNamed B.named, fun w h => atoms_spec (ws := .code yX5_init cX5_init 5 none :: wsL_law) B.pre w (List.mem_cons_of_mem _ h)⟩, hM, hK⟩
  have hx := Z.1.1
  have hb := Z.1.2.1
  have X := kX.of hW0
  have hl := lv_entry ([.ref (ad 9 i), .int (nI n), .ref (ad 5 a), .ref (ad 4 u9), .int (nI hh)]) (n := 5) (Nat.le_of_ble_eq_true rfl)
  rw [lg_entry_eq]
  generalize (lg_sl ([.ref (ad 9 i), .int (nI n), .ref (ad 5 a), .ref (ad 4 u9), .int (nI hh)]) ++ List.replicate (5 - (lg_sl ([.ref (ad 9 i), .int (nI n), .ref (ad 5 a), .ref (ad 4 u9), .int (nI hh)])).length) Slot.unset).toArray = ls at hl ⊢
  have hl : lv_has ls 5 [(0, .ref (ad 9 i)), (1, .int (nI n)), (2, .ref (ad 5 a)), (3, .ref (ad 4 u9)), (4, .int (nI hh))] := hl
  obtain ⟨h16, d1, d2, d3, d4⟩ := txt_len ha hv hu hh9
  refine lv_aload_n hx hb dX5_init_0 rfl (lv_at hl 0 rfl) ?_
  refine k_objInit Z (inU_15 _ (List.mem_of_getElem? (i := 4) rfl)) (inU_1 _ (List.mem_of_getElem? (i := 13) rfl)) (inU_1 _ (List.mem_of_getElem? (i := 14) rfl)) hl.1 (Nat.le_of_ble_eq_true rfl) ⟨(Nat.le_of_ble_eq_true rfl), (Nat.le_of_ble_eq_true rfl)⟩ dX5_init_1 ?_
  refine lv_aload_n hx hb dX5_init_4 rfl (lv_at hl 0 rfl) ?_
  refine lv_iload_n hx hb dX5_init_5 rfl (lv_at hl 1 rfl) ?_
  refine k_putF (index := 9) (j := 0) (k := 9) (i := i) Z X hc inlX5 tyX5_ok nmX5 rfl (by decide) (inU_15 _ (List.mem_of_getElem? (i := 5) rfl)) rfl hin rfl (Nat.le_of_ble_eq_true rfl) rfl rfl dX5_init_6 (fun H locs X => ?_)
  have X : kX E G s H locs ad (cup ct 9 i (.inr (8, [.int (nI n), .int 0, .null, .int 0, .null, .int 0]))) := kXz X rfl (by first | rfl | exact cup_cup)
  refine lv_aload_n hx hb dX5_init_9 rfl (lv_at hl 0 rfl) ?_
  refine lv_aload_n hx hb dX5_init_10 rfl (lv_at hl 2 rfl) ?_
  refine k_get (index := 15) (j := 0) (ad := ad) (k := 5) (i := a) Z X ((cup_n (by simp)).trans h5) inlX3 rfl (by decide) (inU_15 _ (List.mem_of_getElem? (i := 6) rfl)) (fun _ h => h) (v := .int (nI a)) rfl dX5_init_11 ?_
  refine k_putF (index := 18) (j := 1) (k := 9) (i := i) Z X cup_s inlX5 tyX5_ok nmX5 rfl (by decide) (inU_15 _ (List.mem_of_getElem? (i := 7) rfl)) rfl hin rfl (Nat.le_of_ble_eq_true rfl) rfl rfl dX5_init_14 (fun H locs X => ?_)
  have X : kX E G s H locs ad (cup ct 9 i (.inr (8, [.int (nI n), .int (nI a), .null, .int 0, .null, .int 0]))) := kXz X rfl (by first | rfl | exact cup_cup)
  refine lv_aload_n hx hb dX5_init_17 rfl (lv_at hl 0 rfl) ?_
  refine lv_aload_n hx hb dX5_init_18 rfl (lv_at hl 3 rfl) ?_
  refine k_putF (index := 21) (j := 2) (k := 9) (i := i) Z X cup_s inlX5 tyX5_ok nmX5 rfl (by decide) (inU_15 _ (List.mem_of_getElem? (i := 8) rfl)) rfl hin rfl (Nat.le_of_ble_eq_true rfl) rfl rfl dX5_init_19 (fun H locs X => ?_)
  have X : kX E G s H locs ad (cup ct 9 i (.inr (8, [.int (nI n), .int (nI a), .ref (ad 4 u9), .int 0, .null, .int 0]))) := kXz X rfl (by first | rfl | exact cup_cup)
  refine lv_aload_n hx hb dX5_init_22 rfl (lv_at hl 0 rfl) ?_
  refine lv_iload hx hb dX5_init_23 (lv_at hl 4 rfl) ?_
  refine k_putF (index := 25) (j := 3) (k := 9) (i := i) Z X cup_s inlX5 tyX5_ok nmX5 rfl (by decide) (inU_15 _ (List.mem_of_getElem? (i := 9) rfl)) rfl hin rfl (Nat.le_of_ble_eq_true rfl) rfl rfl dX5_init_25 (fun H locs X => ?_)
  have X : kX E G s H locs ad (cup ct 9 i (.inr (8, [.int (nI n), .int (nI a), .ref (ad 4 u9), .int (nI hh), .null, .int 0]))) := kXz X rfl (by first | rfl | exact cup_cup)
  refine lv_aload_n hx hb dX5_init_28 rfl (lv_at hl 0 rfl) ?_
  refine k_new (fs := [.null, .int 0, .int 0, .int 0]) (ci := 1) (ty0 := tyJ4) 97 0 Z X inlJ4 tyJ4_ok rfl (inU_15 _ (List.mem_of_getElem? (i := 10) rfl)) (inU_15 _ (List.mem_of_getElem? (i := 11) rfl)) (inU_15 _ (List.mem_of_getElem? (i := 12) rfl)) (fun j hj => by match j, hj with | 0, _ => rfl | 1, _ => rfl | 2, _ => rfl | 3, _ => rfl) (Nat.le_of_ble_eq_true rfl) (Nat.le_of_ble_eq_true rfl) dX5_init_29 (fun z H X => ?_)
  obtain ⟨adM, hadM⟩ : ∃ y, y = aup ad 97 0 z := ⟨_, rfl⟩
  obtain ⟨ctM, hctM⟩ : ∃ y, y = cup (cup ct 9 i (.inr (8, [.int (nI n), .int (nI a), .ref (ad 4 u9), .int (nI hh), .null, .int 0]))) 97 0 (.inr (1, [.null, .int 0, .int 0, .int 0])) := ⟨_, rfl⟩
  rw [← hadM, ← hctM] at X
  have eN : adM 97 0 = z := by rw [hadM]; exact aup_s
  have hcM : ctM 97 0 = some (.inr (1, [.null, .int 0, .int 0, .int 0])) := by rw [hctM]; exact cup_s
  rw [← eN]
  refine lv_dup hx hb dX5_init_32 rfl ?_
  refine k_Rv X (k_runI (As := []) (rest := [.ref (adM 97 0), .ref (ad 9 i)]) Z X (c_J4_init_da8c8 l E G adM ctM hE hcM) (k_cwI 0 Z.1.2.2.2.2 (inU_15 _ (List.mem_of_getElem? (i := 17) rfl)) (inU_15 _ (List.mem_of_getElem? (i := 18) rfl)) (inU_15 _ (List.mem_of_getElem? (i := 12) rfl)) (inU_15 _ (List.mem_of_getElem? (i := 19) rfl)) rfl rfl rfl (by decide +kernel) ⟨Nat.le_of_ble_eq_true rfl, Nat.le_of_ble_eq_true rfl⟩) rfl hl.1 rfl (Nat.le_of_ble_eq_true rfl) dX5_init_33 ⟨(by first | exact Nat.le_of_ble_eq_true rfl | (show _ ≤ (_ : Nat); simp only [headSpec]; omega)), (by first | exact Nat.le_of_ble_eq_true rfl | (show _ ≤ (_ : Nat); simp only [headSpec]; omega))⟩) (fun ad1 ct1 H locs hp X => ?_)
  obtain ⟨z6, hp1, hp2⟩ := hp
  obtain ⟨ad2, had2⟩ : ∃ y, y = aup adM 96 0 z6 := ⟨_, rfl⟩
  have e6 : ad2 96 0 = z6 := by rw [had2]; exact aup_s
  have X : kX E G s H locs ad2 (tbl G ad2 0 [] (cup ct 9 i (.inr (8, [.int (nI n), .int (nI a), .ref (ad 4 u9), .int (nI hh), .null, .int 0])))) := kXz X (hp1.trans had2.symm) (by rw [hp2, hctM, ← e6]; exact tbl_0)
  have ek : ∀ k j, ¬ k = 97 → ¬ k = 96 → ad2 k j = ad k j := fun k j a b => by rw [had2, hadM]; exact (aup_n (fun z => b z.1)).trans (aup_n (fun z => a z.1))
  have e7 : ad2 97 0 = adM 97 0 := by rw [had2]; exact aup_n (by simp)
  rw [← e7]
  have f9 := ek 9 i (by decide) (by decide)
  have f5 := ek 5 a (by decide) (by decide)
  have f4 := ek 4 u9 (by decide) (by decide)
  rw [← f9, ← f5, ← f4] at hl
  refine W.eq (congrArg (fun y => F0 m 36 ls [.ref (ad2 97 0), .ref y]) f9.symm) ?_
  refine lv_aload_n hx hb dX5_init_36 rfl (lv_at hl 2 rfl) ?_
  refine k_get (index := 15) (j := 0) (ad := ad2) (k := 5) (i := a) Z X ((tbl_n (by decide)).trans ((cup_n (by simp)).trans h5)) inlX3 rfl (by decide) (inU_15 _ (List.mem_of_getElem? (i := 6) rfl)) (fun _ h => h) (v := .int (nI a)) rfl dX5_init_37 ?_
  have n0 : ([] : List Nat).length = 0 := rfl
  refine k_Rq X (k_runV (As := [.int (nI a)]) (rest := [.ref (ad2 9 i)]) Z X (c_J4_append_bf812 l E G ad2 (tbl G ad2 0 [] (cup ct 9 i (.inr (8, [.int (nI n), .int (nI a), .ref (ad 4 u9), .int (nI hh), .null, .int 0])))) hE 0 ([] : List Nat).length tbl_s (txF []) tbl_b a (by omega) (by omega)) (k_cwV 1 Z.1.2.2.2.2 (inU_16 _ (List.mem_of_getElem? (i := 13) rfl)) (inU_16 _ (List.mem_of_getElem? (i := 14) rfl)) (inU_16 _ (List.mem_of_getElem? (i := 15) rfl)) (inU_15 _ (List.mem_of_getElem? (i := 12) rfl)) (inU_16 _ (List.mem_of_getElem? (i := 16) rfl)) rfl rfl (by decide +kernel) ⟨Nat.le_of_ble_eq_true rfl, Nat.le_of_ble_eq_true rfl⟩) (k_recv Z X tbl_s rfl) rfl hl.1 rfl (Nat.le_of_ble_eq_true rfl) dX5_init_40 ⟨(by first | exact Nat.le_of_ble_eq_true rfl | (show _ ≤ (_ : Nat); simp only [headSpec]; omega)), (by first | exact Nat.le_of_ble_eq_true rfl | (show _ ≤ (_ : Nat); simp only [headSpec]; omega))⟩) (fun r_40 ad1 ct1 H locs hp X => ?_)
  obtain ⟨rfl, ha_, a9, h9, hb_⟩ := hp
  obtain ⟨w1, hw1⟩ : ∃ y, y = [] ++ dgs 20 a := ⟨_, rfl⟩
  have nw1 : w1.length = ([] : List Nat).length + sb_dg a := by rw [hw1, List.length_append, dgs_sbl (by omega)]
  rw [← ha_, hb_, ap_dg (by omega) h9, ← hw1, tbl_2 nw1] at X
  have n0 : ([] : List Nat).length = 0 := rfl
  refine lv_bipush (v := 46) hx hb dX5_init_43 (by decide) ?_
  refine k_Rq X (k_runV (As := [.int (nI 46)]) (rest := [.ref (ad2 9 i)]) Z X (c_J4_append_cf468 l E G ad2 (tbl G ad2 0 w1 (cup ct 9 i (.inr (8, [.int (nI n), .int (nI a), .ref (ad 4 u9), .int (nI hh), .null, .int 0])))) hE 0 w1.length tbl_s (txF w1) tbl_b 46 (by decide) (by omega)) (k_cwV 1 Z.1.2.2.2.2 (inU_19 _ (List.mem_of_getElem? (i := 14) rfl)) (inU_19 _ (List.mem_of_getElem? (i := 15) rfl)) (inU_19 _ (List.mem_of_getElem? (i := 16) rfl)) (inU_15 _ (List.mem_of_getElem? (i := 12) rfl)) (inU_19 _ (List.mem_of_getElem? (i := 17) rfl)) rfl rfl (by decide +kernel) ⟨Nat.le_of_ble_eq_true rfl, Nat.le_of_ble_eq_true rfl⟩) (k_recv Z X tbl_s rfl) rfl hl.1 rfl (Nat.le_of_ble_eq_true rfl) dX5_init_45 ⟨(by first | exact Nat.le_of_ble_eq_true rfl | (show _ ≤ (_ : Nat); simp only [headSpec]; omega)), (by first | exact Nat.le_of_ble_eq_true rfl | (show _ ≤ (_ : Nat); simp only [headSpec]; omega))⟩) (fun r_45 ad1 ct1 H locs hp X => ?_)
  obtain ⟨rfl, ha_, hb_⟩ := hp
  obtain ⟨w2, hw2⟩ : ∃ y, y = w1 ++ [46] := ⟨_, rfl⟩
  have nw2 : w2.length = w1.length + 1 := by rw [hw2, List.length_append]; rfl
  rw [← ha_, hb_, ap_ch, ← hw2, tbl_1 nw2] at X
  refine lv_aload_n hx hb dX5_init_48 rfl (lv_at hl 2 rfl) ?_
  refine k_get (index := 38) (j := 6) (ad := ad2) (k := 5) (i := a) Z X ((tbl_n (by decide)).trans ((cup_n (by simp)).trans h5)) inlX3 rfl (by decide) (inU_15 _ (List.mem_of_getElem? (i := 13) rfl)) (fun _ h => h) (v := .int (nI vv)) rfl dX5_init_49 ?_
  refine k_Rq X (k_runV (As := [.int (nI vv)]) (rest := [.ref (ad2 9 i)]) Z X (c_J4_append_bf812 l E G ad2 (tbl G ad2 0 w2 (cup ct 9 i (.inr (8, [.int (nI n), .int (nI a), .ref (ad 4 u9), .int (nI hh), .null, .int 0])))) hE 0 w2.length tbl_s (txF w2) tbl_b vv (by omega) (by omega)) (k_cwV 1 Z.1.2.2.2.2 (inU_16 _ (List.mem_of_getElem? (i := 13) rfl)) (inU_16 _ (List.mem_of_getElem? (i := 14) rfl)) (inU_16 _ (List.mem_of_getElem? (i := 15) rfl)) (inU_15 _ (List.mem_of_getElem? (i := 12) rfl)) (inU_16 _ (List.mem_of_getElem? (i := 16) rfl)) rfl rfl (by decide +kernel) ⟨Nat.le_of_ble_eq_true rfl, Nat.le_of_ble_eq_true rfl⟩) (k_recv Z X tbl_s rfl) rfl hl.1 rfl (Nat.le_of_ble_eq_true rfl) dX5_init_52 ⟨(by first | exact Nat.le_of_ble_eq_true rfl | (show _ ≤ (_ : Nat); simp only [headSpec]; omega)), (by first | exact Nat.le_of_ble_eq_true rfl | (show _ ≤ (_ : Nat); simp only [headSpec]; omega))⟩) (fun r_52 ad1 ct1 H locs hp X => ?_)
  obtain ⟨rfl, ha_, a9, h9, hb_⟩ := hp
  obtain ⟨w3, hw3⟩ : ∃ y, y = w2 ++ dgs 20 vv := ⟨_, rfl⟩
  have nw3 : w3.length = w2.length + sb_dg vv := by rw [hw3, List.length_append, dgs_sbl (by omega)]
  rw [← ha_, hb_, ap_dg (by omega) h9, ← hw3, tbl_2 nw3] at X
  refine lv_bipush (v := 62) hx hb dX5_init_55 (by decide) ?_
  refine k_Rq X (k_runV (As := [.int (nI 62)]) (rest := [.ref (ad2 9 i)]) Z X (c_J4_append_cf468 l E G ad2 (tbl G ad2 0 w3 (cup ct 9 i (.inr (8, [.int (nI n), .int (nI a), .ref (ad 4 u9), .int (nI hh), .null, .int 0])))) hE 0 w3.length tbl_s (txF w3) tbl_b 62 (by decide) (by omega)) (k_cwV 1 Z.1.2.2.2.2 (inU_19 _ (List.mem_of_getElem? (i := 14) rfl)) (inU_19 _ (List.mem_of_getElem? (i := 15) rfl)) (inU_19 _ (List.mem_of_getElem? (i := 16) rfl)) (inU_15 _ (List.mem_of_getElem? (i := 12) rfl)) (inU_19 _ (List.mem_of_getElem? (i := 17) rfl)) rfl rfl (by decide +kernel) ⟨Nat.le_of_ble_eq_true rfl, Nat.le_of_ble_eq_true rfl⟩) (k_recv Z X tbl_s rfl) rfl hl.1 rfl (Nat.le_of_ble_eq_true rfl) dX5_init_57 ⟨(by first | exact Nat.le_of_ble_eq_true rfl | (show _ ≤ (_ : Nat); simp only [headSpec]; omega)), (by first | exact Nat.le_of_ble_eq_true rfl | (show _ ≤ (_ : Nat); simp only [headSpec]; omega))⟩) (fun r_57 ad1 ct1 H locs hp X => ?_)
  obtain ⟨rfl, ha_, hb_⟩ := hp
  obtain ⟨w4, hw4⟩ : ∃ y, y = w3 ++ [62] := ⟨_, rfl⟩
  have nw4 : w4.length = w3.length + 1 := by rw [hw4, List.length_append]; rfl
  rw [← ha_, hb_, ap_ch, ← hw4, tbl_1 nw4] at X
  refine lv_aload_n hx hb dX5_init_60 rfl (lv_at hl 3 rfl) ?_
  refine k_get (index := 41) (j := 0) (ad := ad2) (k := 4) (i := u9) Z X ((tbl_n (by decide)).trans ((cup_n (by simp)).trans h4)) inlX6 rfl (by decide) (inU_15 _ (List.mem_of_getElem? (i := 14) rfl)) (fun _ h => h) (v := .int (nI u9)) rfl dX5_init_61 ?_
  refine k_Rq X (k_runV (As := [.int (nI u9)]) (rest := [.ref (ad2 9 i)]) Z X (c_J4_append_bf812 l E G ad2 (tbl G ad2 0 w4 (cup ct 9 i (.inr (8, [.int (nI n), .int (nI a), .ref (ad 4 u9), .int (nI hh), .null, .int 0])))) hE 0 w4.length tbl_s (txF w4) tbl_b u9 (by omega) (by omega)) (k_cwV 1 Z.1.2.2.2.2 (inU_16 _ (List.mem_of_getElem? (i := 13) rfl)) (inU_16 _ (List.mem_of_getElem? (i := 14) rfl)) (inU_16 _ (List.mem_of_getElem? (i := 15) rfl)) (inU_15 _ (List.mem_of_getElem? (i := 12) rfl)) (inU_16 _ (List.mem_of_getElem? (i := 16) rfl)) rfl rfl (by decide +kernel) ⟨Nat.le_of_ble_eq_true rfl, Nat.le_of_ble_eq_true rfl⟩) (k_recv Z X tbl_s rfl) rfl hl.1 rfl (Nat.le_of_ble_eq_true rfl) dX5_init_64 ⟨(by first | exact Nat.le_of_ble_eq_true rfl | (show _ ≤ (_ : Nat); simp only [headSpec]; omega)), (by first | exact Nat.le_of_ble_eq_true rfl | (show _ ≤ (_ : Nat); simp only [headSpec]; omega))⟩) (fun r_64 ad1 ct1 H locs hp X => ?_)
  obtain ⟨rfl, ha_, a9, h9, hb_⟩ := hp
  obtain ⟨w5, hw5⟩ : ∃ y, y = w4 ++ dgs 20 u9 := ⟨_, rfl⟩
  have nw5 : w5.length = w4.length + sb_dg u9 := by rw [hw5, List.length_append, dgs_sbl (by omega)]
  rw [← ha_, hb_, ap_dg (by omega) h9, ← hw5, tbl_2 nw5] at X
  refine lv_bipush (v := 64) hx hb dX5_init_67 (by decide) ?_
  refine k_Rq X (k_runV (As := [.int (nI 64)]) (rest := [.ref (ad2 9 i)]) Z X (c_J4_append_cf468 l E G ad2 (tbl G ad2 0 w5 (cup ct 9 i (.inr (8, [.int (nI n), .int (nI a), .ref (ad 4 u9), .int (nI hh), .null, .int 0])))) hE 0 w5.length tbl_s (txF w5) tbl_b 64 (by decide) (by omega)) (k_cwV 1 Z.1.2.2.2.2 (inU_19 _ (List.mem_of_getElem? (i := 14) rfl)) (inU_19 _ (List.mem_of_getElem? (i := 15) rfl)) (inU_19 _ (List.mem_of_getElem? (i := 16) rfl)) (inU_15 _ (List.mem_of_getElem? (i := 12) rfl)) (inU_19 _ (List.mem_of_getElem? (i := 17) rfl)) rfl rfl (by decide +kernel) ⟨Nat.le_of_ble_eq_true rfl, Nat.le_of_ble_eq_true rfl⟩) (k_recv Z X tbl_s rfl) rfl hl.1 rfl (Nat.le_of_ble_eq_true rfl) dX5_init_69 ⟨(by first | exact Nat.le_of_ble_eq_true rfl | (show _ ≤ (_ : Nat); simp only [headSpec]; omega)), (by first | exact Nat.le_of_ble_eq_true rfl | (show _ ≤ (_ : Nat); simp only [headSpec]; omega))⟩) (fun r_69 ad1 ct1 H locs hp X => ?_)
  obtain ⟨rfl, ha_, hb_⟩ := hp
  obtain ⟨w6, hw6⟩ : ∃ y, y = w5 ++ [64] := ⟨_, rfl⟩
  have nw6 : w6.length = w5.length + 1 := by rw [hw6, List.length_append]; rfl
  rw [← ha_, hb_, ap_ch, ← hw6, tbl_1 nw6] at X
  refine lv_iload hx hb dX5_init_72 (lv_at hl 4 rfl) ?_
  refine k_Rq X (k_runV (As := [.int (nI hh)]) (rest := [.ref (ad2 9 i)]) Z X (c_J4_append_bf812 l E G ad2 (tbl G ad2 0 w6 (cup ct 9 i (.inr (8, [.int (nI n), .int (nI a), .ref (ad 4 u9), .int (nI hh), .null, .int 0])))) hE 0 w6.length tbl_s (txF w6) tbl_b hh (by omega) (by omega)) (k_cwV 1 Z.1.2.2.2.2 (inU_16 _ (List.mem_of_getElem? (i := 13) rfl)) (inU_16 _ (List.mem_of_getElem? (i := 14) rfl)) (inU_16 _ (List.mem_of_getElem? (i := 15) rfl)) (inU_15 _ (List.mem_of_getElem? (i := 12) rfl)) (inU_16 _ (List.mem_of_getElem? (i := 16) rfl)) rfl rfl (by decide +kernel) ⟨Nat.le_of_ble_eq_true rfl, Nat.le_of_ble_eq_true rfl⟩) (k_recv Z X tbl_s rfl) rfl hl.1 rfl (Nat.le_of_ble_eq_true rfl) dX5_init_74 ⟨(by first | exact Nat.le_of_ble_eq_true rfl | (show _ ≤ (_ : Nat); simp only [headSpec]; omega)), (by first | exact Nat.le_of_ble_eq_true rfl | (show _ ≤ (_ : Nat); simp only [headSpec]; omega))⟩) (fun r_74 ad1 ct1 H locs hp X => ?_)
  obtain ⟨rfl, ha_, a9, h9, hb_⟩ := hp
  obtain ⟨w7, hw7⟩ : ∃ y, y = w6 ++ dgs 20 hh := ⟨_, rfl⟩
  have nw7 : w7.length = w6.length + sb_dg hh := by rw [hw7, List.length_append, dgs_sbl (by omega)]
  rw [← ha_, hb_, ap_dg (by omega) h9, ← hw7, tbl_2 nw7] at X
  have ht : w7 = txt a vv u9 hh := by simp only [hw7, hw6, hw5, hw4, hw3, hw2, hw1, txt, List.nil_append, List.append_assoc, List.cons_append]
  rw [ht] at X
  refine k_Rq X (k_runV (As := []) (rest := [.ref (ad2 9 i)]) Z X (c_J4_toString_0e30d l E G ad2 (tbl G ad2 0 (txt a vv u9 hh) (cup ct 9 i (.inr (8, [.int (nI n), .int (nI a), .ref (ad 4 u9), .int (nI hh), .null, .int 0])))) hE 0 (txt a vv u9 hh) h16 (fun c h => txt_lt h) i tbl_s tbl_b) (k_cwV 0 Z.1.2.2.2.2 (inU_21 _ (List.mem_of_getElem? (i := 8) rfl)) (inU_21 _ (List.mem_of_getElem? (i := 9) rfl)) (inU_21 _ (List.mem_of_getElem? (i := 10) rfl)) (inU_15 _ (List.mem_of_getElem? (i := 12) rfl)) (inU_21 _ (List.mem_of_getElem? (i := 11) rfl)) rfl rfl (by decide +kernel) ⟨Nat.le_of_ble_eq_true rfl, Nat.le_of_ble_eq_true rfl⟩) (k_recv Z X tbl_s rfl) rfl hl.1 rfl (Nat.le_of_ble_eq_true rfl) dX5_init_77 ⟨(by first | exact Nat.le_of_ble_eq_true rfl | (show _ ≤ (_ : Nat); simp only [headSpec]; omega)), (by first | exact Nat.le_of_ble_eq_true rfl | (show _ ≤ (_ : Nat); simp only [headSpec]; omega))⟩) (fun r_77 ad1 ct1 H locs hp X => ?_)
  obtain ⟨z1, z2, rfl, hp1, hp2⟩ := hp
  obtain ⟨ad3, had3⟩ : ∃ y, y = aup (aup ad2 10 i z1) 11 i z2 := ⟨_, rfl⟩
  rw [hp1, hp2, ← had3] at X
  have g9 : ad3 9 i = ad2 9 i := by rw [had3]; exact (aup_n (by simp)).trans (aup_n (by simp))
  rw [← g9] at hl
  refine W.eq (congrArg (fun y => F0 m 80 ls [.ref z1, .ref y]) g9.symm) ?_
  refine k_putF (index := 48) (j := 4) (k := 9) (i := i) Z X ((cup_n (by simp)).trans ((cup_n (by simp)).trans ((tbl_n (by decide)).trans cup_s))) inlX5 tyX5_ok nmX5 rfl (by decide) (inU_15 _ (List.mem_of_getElem? (i := 15) rfl)) rfl hin rfl (Nat.le_of_ble_eq_true rfl) rfl rfl dX5_init_80 (fun H locs X => ?_)
  have X : kX E G s H locs ad3 (cup (cup (cup (tbl G ad2 0 (txt a vv u9 hh) (cup ct 9 i (.inr (8, [.int (nI n), .int (nI a), .ref (ad 4 u9), .int (nI hh), .null, .int 0])))) 11 i (.inl (G.2.1, (txt a vv u9 hh).length, .inl (txF (txt a vv u9 hh))))) 10 i (.inr (0, [.ref z2, .int 0, .int 0, .int 0]))) 9 i (.inr (8, [.int (nI n), .int (nI a), .ref (ad 4 u9), .int (nI hh), .ref z1, .int 0]))) := kXz X rfl (by first | rfl | exact cup_cup)
  refine lv_aload_n hx hb dX5_init_83 rfl (lv_at hl 0 rfl) ?_
  refine lv_iconst (v := 0) hx hb dX5_init_84 (by decide) ?_
  refine k_put (index := 52) (j := 5) (k := 9) (i := i) Z X cup_s inlX5 tyX5_ok nmX5 rfl (by decide) (inU_15 _ (List.mem_of_getElem? (i := 16) rfl)) (fun _ h => h) rfl (Nat.le_of_ble_eq_true rfl) rfl rfl dX5_init_85 (fun H locs X => ?_)
  have X : kX E G s H locs ad3 (cup (cup (cup (tbl G ad2 0 (txt a vv u9 hh) (cup ct 9 i (.inr (8, [.int (nI n), .int (nI a), .ref (ad 4 u9), .int (nI hh), .null, .int 0])))) 11 i (.inl (G.2.1, (txt a vv u9 hh).length, .inl (txF (txt a vv u9 hh))))) 10 i (.inr (0, [.ref z2, .int 0, .int 0, .int 0]))) 9 i (.inr (8, [.int (nI n), .int (nI a), .ref (ad 4 u9), .int (nI hh), .ref z1, .int 0]))) := kXz X rfl (by first | rfl | exact cup_cup)
  rw [had3, had2, hadM] at X
  exact k_vret Z (tbl_drop h96 h97 X) hr hlocks (Nat.le_of_ble_eq_true rfl) (Nat.le_of_ble_eq_true rfl) dX5_init_88 ⟨z1, z2, rfl, rfl⟩
