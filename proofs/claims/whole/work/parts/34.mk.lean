/-! CONSTRUCTORS with arrays -/
def mkA (kc ka : Nat) (cell : (Nat → Value) → Option va_E) (arr : Nat → Option va_E) (j : Nat) (ad0 : kAd) (ct0 : kCt) (ad : kAd) (ct : kCt) : Prop :=
  (∀ k i, k ≠ ka → ad k i = ad0 k i) ∧ ct kc 0 = cell (fun q => if q < j then .ref (ad ka q) else .null) ∧ (∀ q, q < j → ct ka q = arr q) ∧ (∀ k i, k ≠ kc → k ≠ ka → ct k i = ct0 k i)
theorem mkA.na {kc ka : Nat} {cell : (Nat → Value) → Option va_E} {arr : Nat → Option va_E} {j : Nat} {ad0 : kAd} {ct0 : kCt} {ad : kAd} {ct : kCt} (h : mkA kc ka cell arr j ad0 ct0 ad ct) (hk : kc ≠ ka) (z : Nat) (e : va_E) : aup ad ka j z kc 0 = ad0 kc 0 ∧ cup ct ka j e kc 0 = cell (fun q => if q < j then .ref (aup ad ka j z ka q) else .null) := by
  refine ⟨(aup_n (fun y => hk y.1)).trans (h.1 kc 0 hk), (cup_n (fun y => hk y.1)).trans (h.2.1.trans (congrArg cell ?_))⟩
  funext q
  by_cases hq : q < j
  · rw [if_pos hq, if_pos hq, aup_n (fun y => by omega)]
  · rw [if_neg hq, if_neg hq]
theorem mkA.nb {kc ka : Nat} {cell : (Nat → Value) → Option va_E} {arr : Nat → Option va_E} {j : Nat} {ad0 : kAd} {ct0 : kCt} {ad : kAd} {ct : kCt} (h : mkA kc ka cell arr j ad0 ct0 ad ct) (hk : kc ≠ ka) (z : Nat) (e C : va_E) (he : arr j = some e) (hf : cell (fun q => if q < j + 1 then .ref (aup ad ka j z ka q) else .null) = some C) : mkA kc ka cell arr (j + 1) ad0 ct0 (aup ad ka j z) (cup (cup ct ka j e) kc 0 C) := by
  refine ⟨fun k i hh => (aup_n (fun y => hh y.1)).trans (h.1 k i hh), by rw [cup_s, hf], fun q hq => ?_, fun k i h1 h2 => (cup_n (fun y => h1 y.1)).trans ((cup_n (fun y => h2 y.1)).trans (h.2.2.2 k i h1 h2))⟩
  rw [cup_n (fun y => hk y.1.symm)]
  by_cases hj : q = j
  · rw [hj, cup_s, he]
  · rw [cup_n (fun y => hj y.2)]; exact h.2.2.1 q (by omega)
def m1c (r : Nat → Value) : Option va_E := some (.inr (4, [r 0, r 1, r 2, .int 0]))
def m8c (r : Nat → Value) : Option va_E := some (.inr (11, [.int 0, .int 0, (r 0), (r 1), (r 2), (r 3), .int 0, (r 4), (r 5), (r 6), (r 7), (r 8), (r 9), (r 10), (r 11), .int 0, (r 12), (r 13), (r 14), (r 15), .int 0, (r 16), (r 17), (r 18), (r 19), (r 20), (r 21), .int 0, .int 0]))
def kT0 : kSt := (fun _ _ => 0, fun _ _ => 0)
theorem dX1_init_0 : decode cX1_init 0 = .ok (.aload_n 0, 1) := by decide +kernel
theorem dX1_init_1 : decode cX1_init 1 = .ok (.invokespecial 3, 3) := by decide +kernel
theorem dX1_init_4 : decode cX1_init 4 = .ok (.aload_n 0, 1) := by decide +kernel
theorem dX1_init_5 : decode cX1_init 5 = .ok (.sipush 512, 3) := by decide +kernel
theorem dX1_init_8 : decode cX1_init 8 = .ok (.newarray .int, 2) := by decide +kernel
theorem dX1_init_10 : decode cX1_init 10 = .ok (.putfield 9, 3) := by decide +kernel
theorem dX1_init_13 : decode cX1_init 13 = .ok (.aload_n 0, 1) := by decide +kernel
theorem dX1_init_14 : decode cX1_init 14 = .ok (.sipush 512, 3) := by decide +kernel
theorem dX1_init_17 : decode cX1_init 17 = .ok (.newarray .int, 2) := by decide +kernel
theorem dX1_init_19 : decode cX1_init 19 = .ok (.putfield 15, 3) := by decide +kernel
theorem dX1_init_22 : decode cX1_init 22 = .ok (.aload_n 0, 1) := by decide +kernel
theorem dX1_init_23 : decode cX1_init 23 = .ok (.sipush 512, 3) := by decide +kernel
theorem dX1_init_26 : decode cX1_init 26 = .ok (.newarray .int, 2) := by decide +kernel
theorem dX1_init_28 : decode cX1_init 28 = .ok (.putfield 18, 3) := by decide +kernel
theorem dX1_init_31 : decode cX1_init 31 = .ok (.return_, 1) := by decide +kernel
set_option maxHeartbeats 1000000 in
set_option maxRecDepth 100000 in
theorem c_X1_init (l : Launch) (E : State) (G : kG) (ad : kAd) (ct : kCt) (h : mkA 12 13 m1c (fun _ => some (.inl (G.2.2.1, 512, .inl (fun _ => 0)))) 0 ad ct ad ct) : Met l yX1_init (.code yX1_init cX1_init 1 none :: wsL_law) ({ frames := 3, cells := 3, slots := 1536, locals := 100 } : Room) (va_Pc [.ref (ad 12 0)] (kPre E G ad ct)) (kQv E G (fun ad1 ct1 => mkA 12 13 m1c (fun _ => some (.inl (G.2.2.1, 512, .inl (fun _ => 0)))) 3 ad ct ad1 ct1)) 3 1536 (kB E.heap.size) := by
  refine Met.ofW (cc := cX1_init) (maxL := 1) (ret := none) (by decide) rfl ?_
  intro p e s m args below meth c s₁ B hml hv
  obtain ⟨rfl, hM, hK, hW0⟩ := hv
  have hlocks := B.notSynchronized
  have hr := B.returns
  have hin : meth.name = "<init>" := (name_of_methodNamed B.named B.method).1
  have Z : kZ p m c cX1_init 1 s _ wsL_law RX1 E G := ⟨⟨B.exec, B.bytes, hml, findClass_of_methodNamed B.named, fun w h => atoms_spec (ws := .code yX1_init cX1_init 1 none :: wsL_law) B.pre w (List.mem_cons_of_mem _ h)⟩, hM, hK⟩
  have hx := Z.1.1
  have hb := Z.1.2.1
  have X := kX.of hW0
  have hl := lv_entry ([.ref (ad 12 0)]) (n := 1) (Nat.le_of_ble_eq_true rfl)
  rw [lg_entry_eq]
  generalize (lg_sl ([.ref (ad 12 0)]) ++ List.replicate (1 - (lg_sl ([.ref (ad 12 0)])).length) Slot.unset).toArray = ls at hl ⊢
  have hl : lv_has ls 1 [(0, .ref (ad 12 0))] := hl
  refine lv_aload_n hx hb dX1_init_0 rfl (lv_at hl 0 rfl) ?_
  refine k_objInit Z (inU_5 _ (List.mem_of_getElem? (i := 13) rfl)) (inU_1 _ (List.mem_of_getElem? (i := 11) rfl)) (inU_1 _ (List.mem_of_getElem? (i := 12) rfl)) hl.1 (Nat.le_of_ble_eq_true rfl) ⟨(Nat.le_of_ble_eq_true rfl), (Nat.le_of_ble_eq_true rfl)⟩ dX1_init_1 ?_
  refine lv_aload_n hx hb dX1_init_4 rfl (lv_at hl 0 rfl) ?_
  refine lv_sipush (v := 512) hx hb dX1_init_5 (by decide) ?_
  refine k_newa (atype := .int) (ty := .int) (t0 := 1) (N' := 512) (a0 := (512, .inl (fun _ => 0))) 13 0 Z X (inU_5 _ (List.mem_of_getElem? (i := 14) rfl)) rfl rfl (fun h => h) rfl (by decide) rfl (by decide) (Nat.le_of_ble_eq_true rfl) (Nat.le_of_ble_eq_true rfl) dX1_init_8 (fun z H X => ?_)
  obtain ⟨n1, n2⟩ := h.na (by decide) z (.inl (G.2.2.1, 512, .inl (fun _ => 0)))
  refine W.eq (congrArg (fun y => F0 m 10 ls [.ref z, .ref y]) n1.symm) ?_
  refine k_putF (index := 9) (j := 0) (k := 12) (i := 0) Z X n2 inlX1 tyX1_ok nmX1 rfl (by decide) (inU_5 _ (List.mem_of_getElem? (i := 15) rfl)) rfl hin rfl (Nat.le_of_ble_eq_true rfl) rfl rfl dX1_init_10 (fun H locs X => ?_)
  have h := h.nb (by decide) z (.inl (G.2.2.1, 512, .inl (fun _ => 0))) _ rfl rfl
  obtain ⟨ad1, ct1, h, X⟩ : ∃ ad1 ct1, mkA 12 13 m1c (fun _ => some (.inl (G.2.2.1, 512, .inl (fun _ => 0)))) 1 ad ct ad1 ct1 ∧ kX E G s H locs ad1 ct1 := ⟨_, _, h, X⟩
  clear n1 n2
  refine lv_aload_n hx hb dX1_init_13 rfl (lv_at hl 0 rfl) ?_
  refine lv_sipush (v := 512) hx hb dX1_init_14 (by decide) ?_
  refine k_newa (atype := .int) (ty := .int) (t0 := 1) (N' := 512) (a0 := (512, .inl (fun _ => 0))) 13 1 Z X (inU_5 _ (List.mem_of_getElem? (i := 14) rfl)) rfl rfl (fun h => h) rfl (by decide) rfl (by decide) (Nat.le_of_ble_eq_true rfl) (Nat.le_of_ble_eq_true rfl) dX1_init_17 (fun z H X => ?_)
  obtain ⟨n1, n2⟩ := h.na (by decide) z (.inl (G.2.2.1, 512, .inl (fun _ => 0)))
  refine W.eq (congrArg (fun y => F0 m 19 ls [.ref z, .ref y]) n1.symm) ?_
  refine k_putF (index := 15) (j := 1) (k := 12) (i := 0) Z X n2 inlX1 tyX1_ok nmX1 rfl (by decide) (inU_5 _ (List.mem_of_getElem? (i := 16) rfl)) rfl hin rfl (Nat.le_of_ble_eq_true rfl) rfl rfl dX1_init_19 (fun H locs X => ?_)
  have h := h.nb (by decide) z (.inl (G.2.2.1, 512, .inl (fun _ => 0))) _ rfl rfl
  obtain ⟨ad1, ct1, h, X⟩ : ∃ ad1 ct1, mkA 12 13 m1c (fun _ => some (.inl (G.2.2.1, 512, .inl (fun _ => 0)))) 2 ad ct ad1 ct1 ∧ kX E G s H locs ad1 ct1 := ⟨_, _, h, X⟩
  clear n1 n2
  refine lv_aload_n hx hb dX1_init_22 rfl (lv_at hl 0 rfl) ?_
  refine lv_sipush (v := 512) hx hb dX1_init_23 (by decide) ?_
  refine k_newa (atype := .int) (ty := .int) (t0 := 1) (N' := 512) (a0 := (512, .inl (fun _ => 0))) 13 2 Z X (inU_5 _ (List.mem_of_getElem? (i := 14) rfl)) rfl rfl (fun h => h) rfl (by decide) rfl (by decide) (Nat.le_of_ble_eq_true rfl) (Nat.le_of_ble_eq_true rfl) dX1_init_26 (fun z H X => ?_)
  obtain ⟨n1, n2⟩ := h.na (by decide) z (.inl (G.2.2.1, 512, .inl (fun _ => 0)))
  refine W.eq (congrArg (fun y => F0 m 28 ls [.ref z, .ref y]) n1.symm) ?_
  refine k_putF (index := 18) (j := 2) (k := 12) (i := 0) Z X n2 inlX1 tyX1_ok nmX1 rfl (by decide) (inU_5 _ (List.mem_of_getElem? (i := 17) rfl)) rfl hin rfl (Nat.le_of_ble_eq_true rfl) rfl rfl dX1_init_28 (fun H locs X => ?_)
  have h := h.nb (by decide) z (.inl (G.2.2.1, 512, .inl (fun _ => 0))) _ rfl rfl
  obtain ⟨ad1, ct1, h, X⟩ : ∃ ad1 ct1, mkA 12 13 m1c (fun _ => some (.inl (G.2.2.1, 512, .inl (fun _ => 0)))) 3 ad ct ad1 ct1 ∧ kX E G s H locs ad1 ct1 := ⟨_, _, h, X⟩
  clear n1 n2
  exact k_vret Z X hr hlocks (by omega) (by omega) dX1_init_31 h
theorem dX8_init_0 : decode cX8_init 0 = .ok (.aload_n 0, 1) := by decide +kernel
theorem dX8_init_1 : decode cX8_init 1 = .ok (.invokespecial 1, 3) := by decide +kernel
theorem dX8_init_4 : decode cX8_init 4 = .ok (.aload_n 0, 1) := by decide +kernel
theorem dX8_init_5 : decode cX8_init 5 = .ok (.bipush 12, 2) := by decide +kernel
theorem dX8_init_7 : decode cX8_init 7 = .ok (.newarray .int, 2) := by decide +kernel
theorem dX8_init_9 : decode cX8_init 9 = .ok (.putfield 7, 3) := by decide +kernel
theorem dX8_init_12 : decode cX8_init 12 = .ok (.aload_n 0, 1) := by decide +kernel
theorem dX8_init_13 : decode cX8_init 13 = .ok (.bipush 12, 2) := by decide +kernel
theorem dX8_init_15 : decode cX8_init 15 = .ok (.newarray .int, 2) := by decide +kernel
theorem dX8_init_17 : decode cX8_init 17 = .ok (.putfield 13, 3) := by decide +kernel
theorem dX8_init_20 : decode cX8_init 20 = .ok (.aload_n 0, 1) := by decide +kernel
theorem dX8_init_21 : decode cX8_init 21 = .ok (.bipush 6, 2) := by decide +kernel
theorem dX8_init_23 : decode cX8_init 23 = .ok (.newarray .int, 2) := by decide +kernel
theorem dX8_init_25 : decode cX8_init 25 = .ok (.putfield 16, 3) := by decide +kernel
theorem dX8_init_28 : decode cX8_init 28 = .ok (.aload_n 0, 1) := by decide +kernel
theorem dX8_init_29 : decode cX8_init 29 = .ok (.bipush 6, 2) := by decide +kernel
theorem dX8_init_31 : decode cX8_init 31 = .ok (.newarray .boolean, 2) := by decide +kernel
theorem dX8_init_33 : decode cX8_init 33 = .ok (.putfield 19, 3) := by decide +kernel
theorem dX8_init_36 : decode cX8_init 36 = .ok (.aload_n 0, 1) := by decide +kernel
theorem dX8_init_37 : decode cX8_init 37 = .ok (.bipush 80, 2) := by decide +kernel
theorem dX8_init_39 : decode cX8_init 39 = .ok (.newarray .int, 2) := by decide +kernel
theorem dX8_init_41 : decode cX8_init 41 = .ok (.putfield 23, 3) := by decide +kernel
theorem dX8_init_44 : decode cX8_init 44 = .ok (.aload_n 0, 1) := by decide +kernel
theorem dX8_init_45 : decode cX8_init 45 = .ok (.bipush 80, 2) := by decide +kernel
theorem dX8_init_47 : decode cX8_init 47 = .ok (.newarray .int, 2) := by decide +kernel
theorem dX8_init_49 : decode cX8_init 49 = .ok (.putfield 26, 3) := by decide +kernel
theorem dX8_init_52 : decode cX8_init 52 = .ok (.aload_n 0, 1) := by decide +kernel
theorem dX8_init_53 : decode cX8_init 53 = .ok (.bipush 80, 2) := by decide +kernel
theorem dX8_init_55 : decode cX8_init 55 = .ok (.newarray .int, 2) := by decide +kernel
theorem dX8_init_57 : decode cX8_init 57 = .ok (.putfield 29, 3) := by decide +kernel
theorem dX8_init_60 : decode cX8_init 60 = .ok (.aload_n 0, 1) := by decide +kernel
theorem dX8_init_61 : decode cX8_init 61 = .ok (.bipush 80, 2) := by decide +kernel
theorem dX8_init_63 : decode cX8_init 63 = .ok (.newarray .int, 2) := by decide +kernel
theorem dX8_init_65 : decode cX8_init 65 = .ok (.putfield 32, 3) := by decide +kernel
theorem dX8_init_68 : decode cX8_init 68 = .ok (.aload_n 0, 1) := by decide +kernel
theorem dX8_init_69 : decode cX8_init 69 = .ok (.bipush 80, 2) := by decide +kernel
theorem dX8_init_71 : decode cX8_init 71 = .ok (.newarray .int, 2) := by decide +kernel
theorem dX8_init_73 : decode cX8_init 73 = .ok (.putfield 35, 3) := by decide +kernel
theorem dX8_init_76 : decode cX8_init 76 = .ok (.aload_n 0, 1) := by decide +kernel
theorem dX8_init_77 : decode cX8_init 77 = .ok (.bipush 80, 2) := by decide +kernel
theorem dX8_init_79 : decode cX8_init 79 = .ok (.newarray .boolean, 2) := by decide +kernel
theorem dX8_init_81 : decode cX8_init 81 = .ok (.putfield 38, 3) := by decide +kernel
theorem dX8_init_84 : decode cX8_init 84 = .ok (.aload_n 0, 1) := by decide +kernel
theorem dX8_init_85 : decode cX8_init 85 = .ok (.sipush 960, 3) := by decide +kernel
theorem dX8_init_88 : decode cX8_init 88 = .ok (.newarray .int, 2) := by decide +kernel
theorem dX8_init_90 : decode cX8_init 90 = .ok (.putfield 41, 3) := by decide +kernel
theorem dX8_init_93 : decode cX8_init 93 = .ok (.aload_n 0, 1) := by decide +kernel
theorem dX8_init_94 : decode cX8_init 94 = .ok (.sipush 960, 3) := by decide +kernel
theorem dX8_init_97 : decode cX8_init 97 = .ok (.newarray .int, 2) := by decide +kernel
theorem dX8_init_99 : decode cX8_init 99 = .ok (.putfield 44, 3) := by decide +kernel
theorem dX8_init_102 : decode cX8_init 102 = .ok (.aload_n 0, 1) := by decide +kernel
theorem dX8_init_103 : decode cX8_init 103 = .ok (.bipush 60, 2) := by decide +kernel
theorem dX8_init_105 : decode cX8_init 105 = .ok (.newarray .int, 2) := by decide +kernel
theorem dX8_init_107 : decode cX8_init 107 = .ok (.putfield 47, 3) := by decide +kernel
theorem dX8_init_110 : decode cX8_init 110 = .ok (.aload_n 0, 1) := by decide +kernel
theorem dX8_init_111 : decode cX8_init 111 = .ok (.bipush 60, 2) := by decide +kernel
theorem dX8_init_113 : decode cX8_init 113 = .ok (.newarray .int, 2) := by decide +kernel
theorem dX8_init_115 : decode cX8_init 115 = .ok (.putfield 50, 3) := by decide +kernel
theorem dX8_init_118 : decode cX8_init 118 = .ok (.aload_n 0, 1) := by decide +kernel
theorem dX8_init_119 : decode cX8_init 119 = .ok (.bipush 60, 2) := by decide +kernel
theorem dX8_init_121 : decode cX8_init 121 = .ok (.newarray .int, 2) := by decide +kernel
theorem dX8_init_123 : decode cX8_init 123 = .ok (.putfield 53, 3) := by decide +kernel
theorem dX8_init_126 : decode cX8_init 126 = .ok (.aload_n 0, 1) := by decide +kernel
theorem dX8_init_127 : decode cX8_init 127 = .ok (.bipush 60, 2) := by decide +kernel
theorem dX8_init_129 : decode cX8_init 129 = .ok (.newarray .boolean, 2) := by decide +kernel
theorem dX8_init_131 : decode cX8_init 131 = .ok (.putfield 56, 3) := by decide +kernel
theorem dX8_init_134 : decode cX8_init 134 = .ok (.aload_n 0, 1) := by decide +kernel
theorem dX8_init_135 : decode cX8_init 135 = .ok (.bipush 60, 2) := by decide +kernel
theorem dX8_init_137 : decode cX8_init 137 = .ok (.newarray .int, 2) := by decide +kernel
theorem dX8_init_139 : decode cX8_init 139 = .ok (.putfield 59, 3) := by decide +kernel
theorem dX8_init_142 : decode cX8_init 142 = .ok (.aload_n 0, 1) := by decide +kernel
theorem dX8_init_143 : decode cX8_init 143 = .ok (.bipush 60, 2) := by decide +kernel
theorem dX8_init_145 : decode cX8_init 145 = .ok (.newarray .int, 2) := by decide +kernel
theorem dX8_init_147 : decode cX8_init 147 = .ok (.putfield 62, 3) := by decide +kernel
theorem dX8_init_150 : decode cX8_init 150 = .ok (.aload_n 0, 1) := by decide +kernel
theorem dX8_init_151 : decode cX8_init 151 = .ok (.bipush 60, 2) := by decide +kernel
theorem dX8_init_153 : decode cX8_init 153 = .ok (.newarray .int, 2) := by decide +kernel
theorem dX8_init_155 : decode cX8_init 155 = .ok (.putfield 65, 3) := by decide +kernel
theorem dX8_init_158 : decode cX8_init 158 = .ok (.aload_n 0, 1) := by decide +kernel
theorem dX8_init_159 : decode cX8_init 159 = .ok (.bipush 60, 2) := by decide +kernel
theorem dX8_init_161 : decode cX8_init 161 = .ok (.newarray .int, 2) := by decide +kernel
theorem dX8_init_163 : decode cX8_init 163 = .ok (.putfield 68, 3) := by decide +kernel
theorem dX8_init_166 : decode cX8_init 166 = .ok (.aload_n 0, 1) := by decide +kernel
theorem dX8_init_167 : decode cX8_init 167 = .ok (.bipush 60, 2) := by decide +kernel
theorem dX8_init_169 : decode cX8_init 169 = .ok (.newarray .int, 2) := by decide +kernel
theorem dX8_init_171 : decode cX8_init 171 = .ok (.putfield 71, 3) := by decide +kernel
theorem dX8_init_174 : decode cX8_init 174 = .ok (.aload_n 0, 1) := by decide +kernel
theorem dX8_init_175 : decode cX8_init 175 = .ok (.bipush 40, 2) := by decide +kernel
theorem dX8_init_177 : decode cX8_init 177 = .ok (.newarray .int, 2) := by decide +kernel
theorem dX8_init_179 : decode cX8_init 179 = .ok (.putfield 74, 3) := by decide +kernel
theorem dX8_init_182 : decode cX8_init 182 = .ok (.return_, 1) := by decide +kernel
set_option maxHeartbeats 1000000 in
set_option maxRecDepth 100000 in
theorem c_X8_init (l : Launch) (E : State) (G : kG) (ad : kAd) (ct : kCt) (h : mkA 16 17 m8c (marr G kT0) 0 ad ct ad ct) : Met l yX8_init (.code yX8_init cX8_init 1 none :: wsL_law) ({ frames := 3, cells := 22, slots := 3016, locals := 100 } : Room) (va_Pc [.ref (ad 16 0)] (kPre E G ad ct)) (kQv E G (fun ad1 ct1 => mkA 16 17 m8c (marr G kT0) 22 ad ct ad1 ct1)) 22 3016 (kB E.heap.size) := by
  refine Met.ofW (cc := cX8_init) (maxL := 1) (ret := none) (by decide) rfl ?_
  intro p e s m args below meth c s₁ B hml hv
  obtain ⟨rfl, hM, hK, hW0⟩ := hv
  have hlocks := B.notSynchronized
  have hr := B.returns
  have hin : meth.name = "<init>" := (name_of_methodNamed B.named B.method).1
  have Z : kZ p m c cX8_init 1 s _ wsL_law RX8 E G := ⟨⟨B.exec, B.bytes, hml, findClass_of_methodNamed B.named, fun w h => atoms_spec (ws := .code yX8_init cX8_init 1 none :: wsL_law) B.pre w (List.mem_cons_of_mem _ h)⟩, hM, hK⟩
  have hx := Z.1.1
  have hb := Z.1.2.1
  have X := kX.of hW0
  have hl := lv_entry ([.ref (ad 16 0)]) (n := 1) (Nat.le_of_ble_eq_true rfl)
  rw [lg_entry_eq]
  generalize (lg_sl ([.ref (ad 16 0)]) ++ List.replicate (1 - (lg_sl ([.ref (ad 16 0)])).length) Slot.unset).toArray = ls at hl ⊢
  have hl : lv_has ls 1 [(0, .ref (ad 16 0))] := hl
  refine lv_aload_n hx hb dX8_init_0 rfl (lv_at hl 0 rfl) ?_
  refine k_objInit Z (inU_6 _ (List.mem_of_getElem? (i := 5) rfl)) (inU_1 _ (List.mem_of_getElem? (i := 11) rfl)) (inU_1 _ (List.mem_of_getElem? (i := 12) rfl)) hl.1 (Nat.le_of_ble_eq_true rfl) ⟨(Nat.le_of_ble_eq_true rfl), (Nat.le_of_ble_eq_true rfl)⟩ dX8_init_1 ?_
  refine lv_aload_n hx hb dX8_init_4 rfl (lv_at hl 0 rfl) ?_
  refine lv_bipush (v := 12) hx hb dX8_init_5 (by decide) ?_
  refine k_newa (atype := .int) (ty := .int) (t0 := 1) (N' := 12) (a0 := (12, .inl (fun _ => 0))) 17 0 Z X (inU_5 _ (List.mem_of_getElem? (i := 14) rfl)) rfl rfl (fun h => h) rfl (by decide) rfl (by decide) (Nat.le_of_ble_eq_true rfl) (Nat.le_of_ble_eq_true rfl) dX8_init_7 (fun z H X => ?_)
  obtain ⟨n1, n2⟩ := h.na (by decide) z (.inl (G.2.2.1, 12, .inl (fun _ => 0)))
  refine W.eq (congrArg (fun y => F0 m 9 ls [.ref z, .ref y]) n1.symm) ?_
  refine k_putF (index := 7) (j := 2) (k := 16) (i := 0) Z X n2 inlX8 tyX8_ok nmX8 rfl (by decide) (inU_6 _ (List.mem_of_getElem? (i := 6) rfl)) rfl hin rfl (Nat.le_of_ble_eq_true rfl) rfl rfl dX8_init_9 (fun H locs X => ?_)
  have h := h.nb (by decide) z (.inl (G.2.2.1, 12, .inl (fun _ => 0))) _ rfl rfl
  obtain ⟨ad1, ct1, h, X⟩ : ∃ ad1 ct1, mkA 16 17 m8c (marr G kT0) 1 ad ct ad1 ct1 ∧ kX E G s H locs ad1 ct1 := ⟨_, _, h, X⟩
  clear n1 n2
  refine lv_aload_n hx hb dX8_init_12 rfl (lv_at hl 0 rfl) ?_
  refine lv_bipush (v := 12) hx hb dX8_init_13 (by decide) ?_
  refine k_newa (atype := .int) (ty := .int) (t0 := 1) (N' := 12) (a0 := (12, .inl (fun _ => 0))) 17 1 Z X (inU_5 _ (List.mem_of_getElem? (i := 14) rfl)) rfl rfl (fun h => h) rfl (by decide) rfl (by decide) (Nat.le_of_ble_eq_true rfl) (Nat.le_of_ble_eq_true rfl) dX8_init_15 (fun z H X => ?_)
  obtain ⟨n1, n2⟩ := h.na (by decide) z (.inl (G.2.2.1, 12, .inl (fun _ => 0)))
  refine W.eq (congrArg (fun y => F0 m 17 ls [.ref z, .ref y]) n1.symm) ?_
  refine k_putF (index := 13) (j := 3) (k := 16) (i := 0) Z X n2 inlX8 tyX8_ok nmX8 rfl (by decide) (inU_6 _ (List.mem_of_getElem? (i := 7) rfl)) rfl hin rfl (Nat.le_of_ble_eq_true rfl) rfl rfl dX8_init_17 (fun H locs X => ?_)
  have h := h.nb (by decide) z (.inl (G.2.2.1, 12, .inl (fun _ => 0))) _ rfl rfl
  obtain ⟨ad1, ct1, h, X⟩ : ∃ ad1 ct1, mkA 16 17 m8c (marr G kT0) 2 ad ct ad1 ct1 ∧ kX E G s H locs ad1 ct1 := ⟨_, _, h, X⟩
  clear n1 n2
  refine lv_aload_n hx hb dX8_init_20 rfl (lv_at hl 0 rfl) ?_
  refine lv_bipush (v := 6) hx hb dX8_init_21 (by decide) ?_
  refine k_newa (atype := .int) (ty := .int) (t0 := 1) (N' := 6) (a0 := (6, .inl (fun _ => 0))) 17 2 Z X (inU_5 _ (List.mem_of_getElem? (i := 14) rfl)) rfl rfl (fun h => h) rfl (by decide) rfl (by decide) (Nat.le_of_ble_eq_true rfl) (Nat.le_of_ble_eq_true rfl) dX8_init_23 (fun z H X => ?_)
  obtain ⟨n1, n2⟩ := h.na (by decide) z (.inl (G.2.2.1, 6, .inl (fun _ => 0)))
  refine W.eq (congrArg (fun y => F0 m 25 ls [.ref z, .ref y]) n1.symm) ?_
  refine k_putF (index := 16) (j := 4) (k := 16) (i := 0) Z X n2 inlX8 tyX8_ok nmX8 rfl (by decide) (inU_6 _ (List.mem_of_getElem? (i := 8) rfl)) rfl hin rfl (Nat.le_of_ble_eq_true rfl) rfl rfl dX8_init_25 (fun H locs X => ?_)
  have h := h.nb (by decide) z (.inl (G.2.2.1, 6, .inl (fun _ => 0))) _ rfl rfl
  obtain ⟨ad1, ct1, h, X⟩ : ∃ ad1 ct1, mkA 16 17 m8c (marr G kT0) 3 ad ct ad1 ct1 ∧ kX E G s H locs ad1 ct1 := ⟨_, _, h, X⟩
  clear n1 n2
  refine lv_aload_n hx hb dX8_init_28 rfl (lv_at hl 0 rfl) ?_
  refine lv_bipush (v := 6) hx hb dX8_init_29 (by decide) ?_
  refine k_newa (atype := .boolean) (ty := .boolean) (t0 := 2) (N' := 6) (a0 := (6, .inl (fun _ => 0))) 17 3 Z X (inU_6 _ (List.mem_of_getElem? (i := 9) rfl)) rfl rfl (fun h => h) rfl (by decide) rfl (by decide) (Nat.le_of_ble_eq_true rfl) (Nat.le_of_ble_eq_true rfl) dX8_init_31 (fun z H X => ?_)
  obtain ⟨n1, n2⟩ := h.na (by decide) z (.inl (G.2.2.2.1, 6, .inl (fun _ => 0)))
  refine W.eq (congrArg (fun y => F0 m 33 ls [.ref z, .ref y]) n1.symm) ?_
  refine k_putF (index := 19) (j := 5) (k := 16) (i := 0) Z X n2 inlX8 tyX8_ok nmX8 rfl (by decide) (inU_6 _ (List.mem_of_getElem? (i := 10) rfl)) rfl hin rfl (Nat.le_of_ble_eq_true rfl) rfl rfl dX8_init_33 (fun H locs X => ?_)
  have h := h.nb (by decide) z (.inl (G.2.2.2.1, 6, .inl (fun _ => 0))) _ rfl rfl
  obtain ⟨ad1, ct1, h, X⟩ : ∃ ad1 ct1, mkA 16 17 m8c (marr G kT0) 4 ad ct ad1 ct1 ∧ kX E G s H locs ad1 ct1 := ⟨_, _, h, X⟩
  clear n1 n2
  refine lv_aload_n hx hb dX8_init_36 rfl (lv_at hl 0 rfl) ?_
  refine lv_bipush (v := 80) hx hb dX8_init_37 (by decide) ?_
  refine k_newa (atype := .int) (ty := .int) (t0 := 1) (N' := 80) (a0 := (80, .inl (fun _ => 0))) 17 4 Z X (inU_5 _ (List.mem_of_getElem? (i := 14) rfl)) rfl rfl (fun h => h) rfl (by decide) rfl (by decide) (Nat.le_of_ble_eq_true rfl) (Nat.le_of_ble_eq_true rfl) dX8_init_39 (fun z H X => ?_)
  obtain ⟨n1, n2⟩ := h.na (by decide) z (.inl (G.2.2.1, 80, .inl (fun _ => 0)))
  refine W.eq (congrArg (fun y => F0 m 41 ls [.ref z, .ref y]) n1.symm) ?_
  refine k_putF (index := 23) (j := 7) (k := 16) (i := 0) Z X n2 inlX8 tyX8_ok nmX8 rfl (by decide) (inU_6 _ (List.mem_of_getElem? (i := 11) rfl)) rfl hin rfl (Nat.le_of_ble_eq_true rfl) rfl rfl dX8_init_41 (fun H locs X => ?_)
  have h := h.nb (by decide) z (.inl (G.2.2.1, 80, .inl (fun _ => 0))) _ rfl rfl
  obtain ⟨ad1, ct1, h, X⟩ : ∃ ad1 ct1, mkA 16 17 m8c (marr G kT0) 5 ad ct ad1 ct1 ∧ kX E G s H locs ad1 ct1 := ⟨_, _, h, X⟩
  clear n1 n2
  refine lv_aload_n hx hb dX8_init_44 rfl (lv_at hl 0 rfl) ?_
  refine lv_bipush (v := 80) hx hb dX8_init_45 (by decide) ?_
  refine k_newa (atype := .int) (ty := .int) (t0 := 1) (N' := 80) (a0 := (80, .inl (fun _ => 0))) 17 5 Z X (inU_5 _ (List.mem_of_getElem? (i := 14) rfl)) rfl rfl (fun h => h) rfl (by decide) rfl (by decide) (Nat.le_of_ble_eq_true rfl) (Nat.le_of_ble_eq_true rfl) dX8_init_47 (fun z H X => ?_)
  obtain ⟨n1, n2⟩ := h.na (by decide) z (.inl (G.2.2.1, 80, .inl (fun _ => 0)))
  refine W.eq (congrArg (fun y => F0 m 49 ls [.ref z, .ref y]) n1.symm) ?_
  refine k_putF (index := 26) (j := 8) (k := 16) (i := 0) Z X n2 inlX8 tyX8_ok nmX8 rfl (by decide) (inU_6 _ (List.mem_of_getElem? (i := 12) rfl)) rfl hin rfl (Nat.le_of_ble_eq_true rfl) rfl rfl dX8_init_49 (fun H locs X => ?_)
  have h := h.nb (by decide) z (.inl (G.2.2.1, 80, .inl (fun _ => 0))) _ rfl rfl
  obtain ⟨ad1, ct1, h, X⟩ : ∃ ad1 ct1, mkA 16 17 m8c (marr G kT0) 6 ad ct ad1 ct1 ∧ kX E G s H locs ad1 ct1 := ⟨_, _, h, X⟩
  clear n1 n2
  refine lv_aload_n hx hb dX8_init_52 rfl (lv_at hl 0 rfl) ?_
  refine lv_bipush (v := 80) hx hb dX8_init_53 (by decide) ?_
  refine k_newa (atype := .int) (ty := .int) (t0 := 1) (N' := 80) (a0 := (80, .inl (fun _ => 0))) 17 6 Z X (inU_5 _ (List.mem_of_getElem? (i := 14) rfl)) rfl rfl (fun h => h) rfl (by decide) rfl (by decide) (Nat.le_of_ble_eq_true rfl) (Nat.le_of_ble_eq_true rfl) dX8_init_55 (fun z H X => ?_)
  obtain ⟨n1, n2⟩ := h.na (by decide) z (.inl (G.2.2.1, 80, .inl (fun _ => 0)))
  refine W.eq (congrArg (fun y => F0 m 57 ls [.ref z, .ref y]) n1.symm) ?_
  refine k_putF (index := 29) (j := 9) (k := 16) (i := 0) Z X n2 inlX8 tyX8_ok nmX8 rfl (by decide) (inU_6 _ (List.mem_of_getElem? (i := 13) rfl)) rfl hin rfl (Nat.le_of_ble_eq_true rfl) rfl rfl dX8_init_57 (fun H locs X => ?_)
  have h := h.nb (by decide) z (.inl (G.2.2.1, 80, .inl (fun _ => 0))) _ rfl rfl
  obtain ⟨ad1, ct1, h, X⟩ : ∃ ad1 ct1, mkA 16 17 m8c (marr G kT0) 7 ad ct ad1 ct1 ∧ kX E G s H locs ad1 ct1 := ⟨_, _, h, X⟩
  clear n1 n2
  refine lv_aload_n hx hb dX8_init_60 rfl (lv_at hl 0 rfl) ?_
  refine lv_bipush (v := 80) hx hb dX8_init_61 (by decide) ?_
  refine k_newa (atype := .int) (ty := .int) (t0 := 1) (N' := 80) (a0 := (80, .inl (fun _ => 0))) 17 7 Z X (inU_5 _ (List.mem_of_getElem? (i := 14) rfl)) rfl rfl (fun h => h) rfl (by decide) rfl (by decide) (Nat.le_of_ble_eq_true rfl) (Nat.le_of_ble_eq_true rfl) dX8_init_63 (fun z H X => ?_)
  obtain ⟨n1, n2⟩ := h.na (by decide) z (.inl (G.2.2.1, 80, .inl (fun _ => 0)))
  refine W.eq (congrArg (fun y => F0 m 65 ls [.ref z, .ref y]) n1.symm) ?_
  refine k_putF (index := 32) (j := 10) (k := 16) (i := 0) Z X n2 inlX8 tyX8_ok nmX8 rfl (by decide) (inU_6 _ (List.mem_of_getElem? (i := 14) rfl)) rfl hin rfl (Nat.le_of_ble_eq_true rfl) rfl rfl dX8_init_65 (fun H locs X => ?_)
  have h := h.nb (by decide) z (.inl (G.2.2.1, 80, .inl (fun _ => 0))) _ rfl rfl
  obtain ⟨ad1, ct1, h, X⟩ : ∃ ad1 ct1, mkA 16 17 m8c (marr G kT0) 8 ad ct ad1 ct1 ∧ kX E G s H locs ad1 ct1 := ⟨_, _, h, X⟩
  clear n1 n2
  refine lv_aload_n hx hb dX8_init_68 rfl (lv_at hl 0 rfl) ?_
  refine lv_bipush (v := 80) hx hb dX8_init_69 (by decide) ?_
  refine k_newa (atype := .int) (ty := .int) (t0 := 1) (N' := 80) (a0 := (80, .inl (fun _ => 0))) 17 8 Z X (inU_5 _ (List.mem_of_getElem? (i := 14) rfl)) rfl rfl (fun h => h) rfl (by decide) rfl (by decide) (Nat.le_of_ble_eq_true rfl) (Nat.le_of_ble_eq_true rfl) dX8_init_71 (fun z H X => ?_)
  obtain ⟨n1, n2⟩ := h.na (by decide) z (.inl (G.2.2.1, 80, .inl (fun _ => 0)))
  refine W.eq (congrArg (fun y => F0 m 73 ls [.ref z, .ref y]) n1.symm) ?_
  refine k_putF (index := 35) (j := 11) (k := 16) (i := 0) Z X n2 inlX8 tyX8_ok nmX8 rfl (by decide) (inU_6 _ (List.mem_of_getElem? (i := 15) rfl)) rfl hin rfl (Nat.le_of_ble_eq_true rfl) rfl rfl dX8_init_73 (fun H locs X => ?_)
  have h := h.nb (by decide) z (.inl (G.2.2.1, 80, .inl (fun _ => 0))) _ rfl rfl
  obtain ⟨ad1, ct1, h, X⟩ : ∃ ad1 ct1, mkA 16 17 m8c (marr G kT0) 9 ad ct ad1 ct1 ∧ kX E G s H locs ad1 ct1 := ⟨_, _, h, X⟩
  clear n1 n2
  refine lv_aload_n hx hb dX8_init_76 rfl (lv_at hl 0 rfl) ?_
  refine lv_bipush (v := 80) hx hb dX8_init_77 (by decide) ?_
  refine k_newa (atype := .boolean) (ty := .boolean) (t0 := 2) (N' := 80) (a0 := (80, .inl (fun _ => 0))) 17 9 Z X (inU_6 _ (List.mem_of_getElem? (i := 9) rfl)) rfl rfl (fun h => h) rfl (by decide) rfl (by decide) (Nat.le_of_ble_eq_true rfl) (Nat.le_of_ble_eq_true rfl) dX8_init_79 (fun z H X => ?_)
  obtain ⟨n1, n2⟩ := h.na (by decide) z (.inl (G.2.2.2.1, 80, .inl (fun _ => 0)))
  refine W.eq (congrArg (fun y => F0 m 81 ls [.ref z, .ref y]) n1.symm) ?_
  refine k_putF (index := 38) (j := 12) (k := 16) (i := 0) Z X n2 inlX8 tyX8_ok nmX8 rfl (by decide) (inU_6 _ (List.mem_of_getElem? (i := 16) rfl)) rfl hin rfl (Nat.le_of_ble_eq_true rfl) rfl rfl dX8_init_81 (fun H locs X => ?_)
  have h := h.nb (by decide) z (.inl (G.2.2.2.1, 80, .inl (fun _ => 0))) _ rfl rfl
  obtain ⟨ad1, ct1, h, X⟩ : ∃ ad1 ct1, mkA 16 17 m8c (marr G kT0) 10 ad ct ad1 ct1 ∧ kX E G s H locs ad1 ct1 := ⟨_, _, h, X⟩
  clear n1 n2
  refine lv_aload_n hx hb dX8_init_84 rfl (lv_at hl 0 rfl) ?_
  refine lv_sipush (v := 960) hx hb dX8_init_85 (by decide) ?_
  refine k_newa (atype := .int) (ty := .int) (t0 := 1) (N' := 960) (a0 := (960, .inl (fun _ => 0))) 17 10 Z X (inU_5 _ (List.mem_of_getElem? (i := 14) rfl)) rfl rfl (fun h => h) rfl (by decide) rfl (by decide) (Nat.le_of_ble_eq_true rfl) (Nat.le_of_ble_eq_true rfl) dX8_init_88 (fun z H X => ?_)
  obtain ⟨n1, n2⟩ := h.na (by decide) z (.inl (G.2.2.1, 960, .inl (fun _ => 0)))
  refine W.eq (congrArg (fun y => F0 m 90 ls [.ref z, .ref y]) n1.symm) ?_
  refine k_putF (index := 41) (j := 13) (k := 16) (i := 0) Z X n2 inlX8 tyX8_ok nmX8 rfl (by decide) (inU_6 _ (List.mem_of_getElem? (i := 17) rfl)) rfl hin rfl (Nat.le_of_ble_eq_true rfl) rfl rfl dX8_init_90 (fun H locs X => ?_)
  have h := h.nb (by decide) z (.inl (G.2.2.1, 960, .inl (fun _ => 0))) _ rfl rfl
  obtain ⟨ad1, ct1, h, X⟩ : ∃ ad1 ct1, mkA 16 17 m8c (marr G kT0) 11 ad ct ad1 ct1 ∧ kX E G s H locs ad1 ct1 := ⟨_, _, h, X⟩
  clear n1 n2
  refine lv_aload_n hx hb dX8_init_93 rfl (lv_at hl 0 rfl) ?_
  refine lv_sipush (v := 960) hx hb dX8_init_94 (by decide) ?_
  refine k_newa (atype := .int) (ty := .int) (t0 := 1) (N' := 960) (a0 := (960, .inl (fun _ => 0))) 17 11 Z X (inU_5 _ (List.mem_of_getElem? (i := 14) rfl)) rfl rfl (fun h => h) rfl (by decide) rfl (by decide) (Nat.le_of_ble_eq_true rfl) (Nat.le_of_ble_eq_true rfl) dX8_init_97 (fun z H X => ?_)
  obtain ⟨n1, n2⟩ := h.na (by decide) z (.inl (G.2.2.1, 960, .inl (fun _ => 0)))
  refine W.eq (congrArg (fun y => F0 m 99 ls [.ref z, .ref y]) n1.symm) ?_
  refine k_putF (index := 44) (j := 14) (k := 16) (i := 0) Z X n2 inlX8 tyX8_ok nmX8 rfl (by decide) (inU_6 _ (List.mem_of_getElem? (i := 18) rfl)) rfl hin rfl (Nat.le_of_ble_eq_true rfl) rfl rfl dX8_init_99 (fun H locs X => ?_)
  have h := h.nb (by decide) z (.inl (G.2.2.1, 960, .inl (fun _ => 0))) _ rfl rfl
  obtain ⟨ad1, ct1, h, X⟩ : ∃ ad1 ct1, mkA 16 17 m8c (marr G kT0) 12 ad ct ad1 ct1 ∧ kX E G s H locs ad1 ct1 := ⟨_, _, h, X⟩
  clear n1 n2
  refine lv_aload_n hx hb dX8_init_102 rfl (lv_at hl 0 rfl) ?_
  refine lv_bipush (v := 60) hx hb dX8_init_103 (by decide) ?_
  refine k_newa (atype := .int) (ty := .int) (t0 := 1) (N' := 60) (a0 := (60, .inl (fun _ => 0))) 17 12 Z X (inU_5 _ (List.mem_of_getElem? (i := 14) rfl)) rfl rfl (fun h => h) rfl (by decide) rfl (by decide) (Nat.le_of_ble_eq_true rfl) (Nat.le_of_ble_eq_true rfl) dX8_init_105 (fun z H X => ?_)
  obtain ⟨n1, n2⟩ := h.na (by decide) z (.inl (G.2.2.1, 60, .inl (fun _ => 0)))
  refine W.eq (congrArg (fun y => F0 m 107 ls [.ref z, .ref y]) n1.symm) ?_
  refine k_putF (index := 47) (j := 16) (k := 16) (i := 0) Z X n2 inlX8 tyX8_ok nmX8 rfl (by decide) (inU_6 _ (List.mem_of_getElem? (i := 19) rfl)) rfl hin rfl (Nat.le_of_ble_eq_true rfl) rfl rfl dX8_init_107 (fun H locs X => ?_)
  have h := h.nb (by decide) z (.inl (G.2.2.1, 60, .inl (fun _ => 0))) _ rfl rfl
  obtain ⟨ad1, ct1, h, X⟩ : ∃ ad1 ct1, mkA 16 17 m8c (marr G kT0) 13 ad ct ad1 ct1 ∧ kX E G s H locs ad1 ct1 := ⟨_, _, h, X⟩
  clear n1 n2
  refine lv_aload_n hx hb dX8_init_110 rfl (lv_at hl 0 rfl) ?_
  refine lv_bipush (v := 60) hx hb dX8_init_111 (by decide) ?_
  refine k_newa (atype := .int) (ty := .int) (t0 := 1) (N' := 60) (a0 := (60, .inl (fun _ => 0))) 17 13 Z X (inU_5 _ (List.mem_of_getElem? (i := 14) rfl)) rfl rfl (fun h => h) rfl (by decide) rfl (by decide) (Nat.le_of_ble_eq_true rfl) (Nat.le_of_ble_eq_true rfl) dX8_init_113 (fun z H X => ?_)
  obtain ⟨n1, n2⟩ := h.na (by decide) z (.inl (G.2.2.1, 60, .inl (fun _ => 0)))
  refine W.eq (congrArg (fun y => F0 m 115 ls [.ref z, .ref y]) n1.symm) ?_
  refine k_putF (index := 50) (j := 17) (k := 16) (i := 0) Z X n2 inlX8 tyX8_ok nmX8 rfl (by decide) (inU_6 _ (List.mem_of_getElem? (i := 20) rfl)) rfl hin rfl (Nat.le_of_ble_eq_true rfl) rfl rfl dX8_init_115 (fun H locs X => ?_)
  have h := h.nb (by decide) z (.inl (G.2.2.1, 60, .inl (fun _ => 0))) _ rfl rfl
  obtain ⟨ad1, ct1, h, X⟩ : ∃ ad1 ct1, mkA 16 17 m8c (marr G kT0) 14 ad ct ad1 ct1 ∧ kX E G s H locs ad1 ct1 := ⟨_, _, h, X⟩
  clear n1 n2
  refine lv_aload_n hx hb dX8_init_118 rfl (lv_at hl 0 rfl) ?_
  refine lv_bipush (v := 60) hx hb dX8_init_119 (by decide) ?_
  refine k_newa (atype := .int) (ty := .int) (t0 := 1) (N' := 60) (a0 := (60, .inl (fun _ => 0))) 17 14 Z X (inU_5 _ (List.mem_of_getElem? (i := 14) rfl)) rfl rfl (fun h => h) rfl (by decide) rfl (by decide) (Nat.le_of_ble_eq_true rfl) (Nat.le_of_ble_eq_true rfl) dX8_init_121 (fun z H X => ?_)
  obtain ⟨n1, n2⟩ := h.na (by decide) z (.inl (G.2.2.1, 60, .inl (fun _ => 0)))
  refine W.eq (congrArg (fun y => F0 m 123 ls [.ref z, .ref y]) n1.symm) ?_
  refine k_putF (index := 53) (j := 18) (k := 16) (i := 0) Z X n2 inlX8 tyX8_ok nmX8 rfl (by decide) (inU_6 _ (List.mem_of_getElem? (i := 21) rfl)) rfl hin rfl (Nat.le_of_ble_eq_true rfl) rfl rfl dX8_init_123 (fun H locs X => ?_)
  have h := h.nb (by decide) z (.inl (G.2.2.1, 60, .inl (fun _ => 0))) _ rfl rfl
  obtain ⟨ad1, ct1, h, X⟩ : ∃ ad1 ct1, mkA 16 17 m8c (marr G kT0) 15 ad ct ad1 ct1 ∧ kX E G s H locs ad1 ct1 := ⟨_, _, h, X⟩
  clear n1 n2
  refine lv_aload_n hx hb dX8_init_126 rfl (lv_at hl 0 rfl) ?_
  refine lv_bipush (v := 60) hx hb dX8_init_127 (by decide) ?_
  refine k_newa (atype := .boolean) (ty := .boolean) (t0 := 2) (N' := 60) (a0 := (60, .inl (fun _ => 0))) 17 15 Z X (inU_6 _ (List.mem_of_getElem? (i := 9) rfl)) rfl rfl (fun h => h) rfl (by decide) rfl (by decide) (Nat.le_of_ble_eq_true rfl) (Nat.le_of_ble_eq_true rfl) dX8_init_129 (fun z H X => ?_)
  obtain ⟨n1, n2⟩ := h.na (by decide) z (.inl (G.2.2.2.1, 60, .inl (fun _ => 0)))
  refine W.eq (congrArg (fun y => F0 m 131 ls [.ref z, .ref y]) n1.symm) ?_
  refine k_putF (index := 56) (j := 19) (k := 16) (i := 0) Z X n2 inlX8 tyX8_ok nmX8 rfl (by decide) (inU_6 _ (List.mem_of_getElem? (i := 22) rfl)) rfl hin rfl (Nat.le_of_ble_eq_true rfl) rfl rfl dX8_init_131 (fun H locs X => ?_)
  have h := h.nb (by decide) z (.inl (G.2.2.2.1, 60, .inl (fun _ => 0))) _ rfl rfl
  obtain ⟨ad1, ct1, h, X⟩ : ∃ ad1 ct1, mkA 16 17 m8c (marr G kT0) 16 ad ct ad1 ct1 ∧ kX E G s H locs ad1 ct1 := ⟨_, _, h, X⟩
  clear n1 n2
  refine lv_aload_n hx hb dX8_init_134 rfl (lv_at hl 0 rfl) ?_
  refine lv_bipush (v := 60) hx hb dX8_init_135 (by decide) ?_
  refine k_newa (atype := .int) (ty := .int) (t0 := 1) (N' := 60) (a0 := (60, .inl (fun _ => 0))) 17 16 Z X (inU_5 _ (List.mem_of_getElem? (i := 14) rfl)) rfl rfl (fun h => h) rfl (by decide) rfl (by decide) (Nat.le_of_ble_eq_true rfl) (Nat.le_of_ble_eq_true rfl) dX8_init_137 (fun z H X => ?_)
  obtain ⟨n1, n2⟩ := h.na (by decide) z (.inl (G.2.2.1, 60, .inl (fun _ => 0)))
  refine W.eq (congrArg (fun y => F0 m 139 ls [.ref z, .ref y]) n1.symm) ?_
  refine k_putF (index := 59) (j := 21) (k := 16) (i := 0) Z X n2 inlX8 tyX8_ok nmX8 rfl (by decide) (inU_6 _ (List.mem_of_getElem? (i := 23) rfl)) rfl hin rfl (Nat.le_of_ble_eq_true rfl) rfl rfl dX8_init_139 (fun H locs X => ?_)
  have h := h.nb (by decide) z (.inl (G.2.2.1, 60, .inl (fun _ => 0))) _ rfl rfl
  obtain ⟨ad1, ct1, h, X⟩ : ∃ ad1 ct1, mkA 16 17 m8c (marr G kT0) 17 ad ct ad1 ct1 ∧ kX E G s H locs ad1 ct1 := ⟨_, _, h, X⟩
  clear n1 n2
  refine lv_aload_n hx hb dX8_init_142 rfl (lv_at hl 0 rfl) ?_
  refine lv_bipush (v := 60) hx hb dX8_init_143 (by decide) ?_
  refine k_newa (atype := .int) (ty := .int) (t0 := 1) (N' := 60) (a0 := (60, .inl (fun _ => 0))) 17 17 Z X (inU_5 _ (List.mem_of_getElem? (i := 14) rfl)) rfl rfl (fun h => h) rfl (by decide) rfl (by decide) (Nat.le_of_ble_eq_true rfl) (Nat.le_of_ble_eq_true rfl) dX8_init_145 (fun z H X => ?_)
  obtain ⟨n1, n2⟩ := h.na (by decide) z (.inl (G.2.2.1, 60, .inl (fun _ => 0)))
  refine W.eq (congrArg (fun y => F0 m 147 ls [.ref z, .ref y]) n1.symm) ?_
  refine k_putF (index := 62) (j := 22) (k := 16) (i := 0) Z X n2 inlX8 tyX8_ok nmX8 rfl (by decide) (inU_7 _ (List.mem_of_getElem? (i := 0) rfl)) rfl hin rfl (Nat.le_of_ble_eq_true rfl) rfl rfl dX8_init_147 (fun H locs X => ?_)
  have h := h.nb (by decide) z (.inl (G.2.2.1, 60, .inl (fun _ => 0))) _ rfl rfl
  obtain ⟨ad1, ct1, h, X⟩ : ∃ ad1 ct1, mkA 16 17 m8c (marr G kT0) 18 ad ct ad1 ct1 ∧ kX E G s H locs ad1 ct1 := ⟨_, _, h, X⟩
  clear n1 n2
  refine lv_aload_n hx hb dX8_init_150 rfl (lv_at hl 0 rfl) ?_
  refine lv_bipush (v := 60) hx hb dX8_init_151 (by decide) ?_
  refine k_newa (atype := .int) (ty := .int) (t0 := 1) (N' := 60) (a0 := (60, .inl (fun _ => 0))) 17 18 Z X (inU_5 _ (List.mem_of_getElem? (i := 14) rfl)) rfl rfl (fun h => h) rfl (by decide) rfl (by decide) (Nat.le_of_ble_eq_true rfl) (Nat.le_of_ble_eq_true rfl) dX8_init_153 (fun z H X => ?_)
  obtain ⟨n1, n2⟩ := h.na (by decide) z (.inl (G.2.2.1, 60, .inl (fun _ => 0)))
  refine W.eq (congrArg (fun y => F0 m 155 ls [.ref z, .ref y]) n1.symm) ?_
  refine k_putF (index := 65) (j := 23) (k := 16) (i := 0) Z X n2 inlX8 tyX8_ok nmX8 rfl (by decide) (inU_7 _ (List.mem_of_getElem? (i := 1) rfl)) rfl hin rfl (Nat.le_of_ble_eq_true rfl) rfl rfl dX8_init_155 (fun H locs X => ?_)
  have h := h.nb (by decide) z (.inl (G.2.2.1, 60, .inl (fun _ => 0))) _ rfl rfl
  obtain ⟨ad1, ct1, h, X⟩ : ∃ ad1 ct1, mkA 16 17 m8c (marr G kT0) 19 ad ct ad1 ct1 ∧ kX E G s H locs ad1 ct1 := ⟨_, _, h, X⟩
  clear n1 n2
  refine lv_aload_n hx hb dX8_init_158 rfl (lv_at hl 0 rfl) ?_
  refine lv_bipush (v := 60) hx hb dX8_init_159 (by decide) ?_
  refine k_newa (atype := .int) (ty := .int) (t0 := 1) (N' := 60) (a0 := (60, .inl (fun _ => 0))) 17 19 Z X (inU_5 _ (List.mem_of_getElem? (i := 14) rfl)) rfl rfl (fun h => h) rfl (by decide) rfl (by decide) (Nat.le_of_ble_eq_true rfl) (Nat.le_of_ble_eq_true rfl) dX8_init_161 (fun z H X => ?_)
  obtain ⟨n1, n2⟩ := h.na (by decide) z (.inl (G.2.2.1, 60, .inl (fun _ => 0)))
  refine W.eq (congrArg (fun y => F0 m 163 ls [.ref z, .ref y]) n1.symm) ?_
  refine k_putF (index := 68) (j := 24) (k := 16) (i := 0) Z X n2 inlX8 tyX8_ok nmX8 rfl (by decide) (inU_7 _ (List.mem_of_getElem? (i := 2) rfl)) rfl hin rfl (Nat.le_of_ble_eq_true rfl) rfl rfl dX8_init_163 (fun H locs X => ?_)
  have h := h.nb (by decide) z (.inl (G.2.2.1, 60, .inl (fun _ => 0))) _ rfl rfl
  obtain ⟨ad1, ct1, h, X⟩ : ∃ ad1 ct1, mkA 16 17 m8c (marr G kT0) 20 ad ct ad1 ct1 ∧ kX E G s H locs ad1 ct1 := ⟨_, _, h, X⟩
  clear n1 n2
  refine lv_aload_n hx hb dX8_init_166 rfl (lv_at hl 0 rfl) ?_
  refine lv_bipush (v := 60) hx hb dX8_init_167 (by decide) ?_
  refine k_newa (atype := .int) (ty := .int) (t0 := 1) (N' := 60) (a0 := (60, .inl (fun _ => 0))) 17 20 Z X (inU_5 _ (List.mem_of_getElem? (i := 14) rfl)) rfl rfl (fun h => h) rfl (by decide) rfl (by decide) (Nat.le_of_ble_eq_true rfl) (Nat.le_of_ble_eq_true rfl) dX8_init_169 (fun z H X => ?_)
  obtain ⟨n1, n2⟩ := h.na (by decide) z (.inl (G.2.2.1, 60, .inl (fun _ => 0)))
  refine W.eq (congrArg (fun y => F0 m 171 ls [.ref z, .ref y]) n1.symm) ?_
  refine k_putF (index := 71) (j := 25) (k := 16) (i := 0) Z X n2 inlX8 tyX8_ok nmX8 rfl (by decide) (inU_7 _ (List.mem_of_getElem? (i := 3) rfl)) rfl hin rfl (Nat.le_of_ble_eq_true rfl) rfl rfl dX8_init_171 (fun H locs X => ?_)
  have h := h.nb (by decide) z (.inl (G.2.2.1, 60, .inl (fun _ => 0))) _ rfl rfl
  obtain ⟨ad1, ct1, h, X⟩ : ∃ ad1 ct1, mkA 16 17 m8c (marr G kT0) 21 ad ct ad1 ct1 ∧ kX E G s H locs ad1 ct1 := ⟨_, _, h, X⟩
  clear n1 n2
  refine lv_aload_n hx hb dX8_init_174 rfl (lv_at hl 0 rfl) ?_
  refine lv_bipush (v := 40) hx hb dX8_init_175 (by decide) ?_
  refine k_newa (atype := .int) (ty := .int) (t0 := 1) (N' := 40) (a0 := (40, .inl (fun _ => 0))) 17 21 Z X (inU_5 _ (List.mem_of_getElem? (i := 14) rfl)) rfl rfl (fun h => h) rfl (by decide) rfl (by decide) (Nat.le_of_ble_eq_true rfl) (Nat.le_of_ble_eq_true rfl) dX8_init_177 (fun z H X => ?_)
  obtain ⟨n1, n2⟩ := h.na (by decide) z (.inl (G.2.2.1, 40, .inl (fun _ => 0)))
  refine W.eq (congrArg (fun y => F0 m 179 ls [.ref z, .ref y]) n1.symm) ?_
  refine k_putF (index := 74) (j := 26) (k := 16) (i := 0) Z X n2 inlX8 tyX8_ok nmX8 rfl (by decide) (inU_7 _ (List.mem_of_getElem? (i := 4) rfl)) rfl hin rfl (Nat.le_of_ble_eq_true rfl) rfl rfl dX8_init_179 (fun H locs X => ?_)
  have h := h.nb (by decide) z (.inl (G.2.2.1, 40, .inl (fun _ => 0))) _ rfl rfl
  obtain ⟨ad1, ct1, h, X⟩ : ∃ ad1 ct1, mkA 16 17 m8c (marr G kT0) 22 ad ct ad1 ct1 ∧ kX E G s H locs ad1 ct1 := ⟨_, _, h, X⟩
  clear n1 n2
  exact k_vret Z X hr hlocks (by omega) (by omega) dX8_init_182 h
