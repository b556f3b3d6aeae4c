theorem m1_lt {n : Nat} (h : n < 2 ^ 30) : nI n - 1 < 0 ↔ n = 0 := by
  have h1 := pk_sub_toInt (a := n) (b := 1) h (by decide)
  rw [Int32.lt_iff_toInt_lt, show (1 : Int32) = nI 1 from rfl, h1, show (0 : Int32).toInt = 0 from rfl]
  omega
theorem inR_h {x : Int32} (h : inR x 1 1000 = true) : ∃ j : Nat, 1 ≤ j ∧ j ≤ 1000 ∧ x = nI j := by
  simp only [inR, Bool.and_eq_true, decide_eq_true_eq] at h
  have h1 := Int32.le_iff_toInt_le.mp h.1
  have h2 := Int32.le_iff_toInt_le.mp h.2
  rw [show (1 : Int32).toInt = 1 from rfl] at h1
  rw [show (1000 : Int32).toInt = 1000 from rfl] at h2
  obtain ⟨j, hj, rfl⟩ := vp_in_of (x := x) (n := 1001) (vp_in_iff.mpr ⟨by omega, by omega⟩) (by decide)
  rw [nI_toInt (by omega)] at h1 h2
  exact ⟨j, by omega, by omega, rfl⟩
theorem inR_6 {x : Int32} (h : inR x 0 6 = true) : x = 0 ∨ x = 1 ∨ x = 2 ∨ x = 3 ∨ x = 4 ∨ x = 5 ∨ x = 6 := by
  simp only [inR, Bool.and_eq_true, decide_eq_true_eq] at h
  have h1 := Int32.le_iff_toInt_le.mp h.1
  have h2 := Int32.le_iff_toInt_le.mp h.2
  rw [show (0 : Int32).toInt = 0 from rfl] at h1
  rw [show (6 : Int32).toInt = 6 from rfl] at h2
  obtain ⟨j, hj, rfl⟩ := vp_in_of (x := x) (n := 7) (vp_in_iff.mpr ⟨by omega, by omega⟩) (by decide)
  match j, hj with
  | 0, _ => exact Or.inl rfl
  | 1, _ => exact Or.inr (Or.inl rfl)
  | 2, _ => exact Or.inr (Or.inr (Or.inl rfl))
  | 3, _ => exact Or.inr (Or.inr (Or.inr (Or.inl rfl)))
  | 4, _ => exact Or.inr (Or.inr (Or.inr (Or.inr (Or.inl rfl))))
  | 5, _ => exact Or.inr (Or.inr (Or.inr (Or.inr (Or.inr (Or.inl rfl)))))
  | 6, _ => exact Or.inr (Or.inr (Or.inr (Or.inr (Or.inr (Or.inr rfl)))))
  | _ + 7, h => exact absurd h (by omega)
/-- the hours one by one -/
def itP (S : kSt) (kd : Nat → Nat → Int32) : Nat → kSt
  | 0 => S
  | n + 1 => stl (sI (itP S kd n) 0 0 ((itP S kd n).1 0 0 + 1)) kd (S.2 0 2)
theorem dX8_canArchive_0 : decode cX8_canArchive 0 = .ok (.aload_n 0, 1) := by decide +kernel
theorem dX8_canArchive_1 : decode cX8_canArchive 1 = .ok (.getfield 38, 3) := by decide +kernel
theorem dX8_canArchive_4 : decode cX8_canArchive 4 = .ok (.iload_n 1, 1) := by decide +kernel
theorem dX8_canArchive_5 : decode cX8_canArchive 5 = .ok (.baload, 1) := by decide +kernel
theorem dX8_canArchive_6 : decode cX8_canArchive 6 = .ok (.ifCond .ne 24, 3) := by decide +kernel
theorem dX8_canArchive_9 : decode cX8_canArchive 9 = .ok (.aload_n 0, 1) := by decide +kernel
theorem dX8_canArchive_10 : decode cX8_canArchive 10 = .ok (.getfield 88, 3) := by decide +kernel
theorem dX8_canArchive_13 : decode cX8_canArchive 13 = .ok (.aload_n 0, 1) := by decide +kernel
theorem dX8_canArchive_14 : decode cX8_canArchive 14 = .ok (.getfield 35, 3) := by decide +kernel
theorem dX8_canArchive_17 : decode cX8_canArchive 17 = .ok (.iload_n 1, 1) := by decide +kernel
theorem dX8_canArchive_18 : decode cX8_canArchive 18 = .ok (.iaload, 1) := by decide +kernel
theorem dX8_canArchive_19 : decode cX8_canArchive 19 = .ok (.isub, 1) := by decide +kernel
theorem dX8_canArchive_20 : decode cX8_canArchive 20 = .ok (.sipush 720, 3) := by decide +kernel
theorem dX8_canArchive_23 : decode cX8_canArchive 23 = .ok (.if_icmp .lt 7, 3) := by decide +kernel
theorem dX8_canArchive_26 : decode cX8_canArchive 26 = .ok (.iconst 1, 1) := by decide +kernel
theorem dX8_canArchive_27 : decode cX8_canArchive 27 = .ok (.goto 4, 3) := by decide +kernel
theorem dX8_canArchive_30 : decode cX8_canArchive 30 = .ok (.iconst 0, 1) := by decide +kernel
theorem dX8_canArchive_31 : decode cX8_canArchive 31 = .ok (.istore_n 2, 1) := by decide +kernel
theorem dX8_canArchive_32 : decode cX8_canArchive 32 = .ok (.iconst 0, 1) := by decide +kernel
theorem dX8_canArchive_33 : decode cX8_canArchive 33 = .ok (.istore_n 3, 1) := by decide +kernel
theorem dX8_canArchive_34 : decode cX8_canArchive 34 = .ok (.iload_n 3, 1) := by decide +kernel
theorem dX8_canArchive_35 : decode cX8_canArchive 35 = .ok (.aload_n 0, 1) := by decide +kernel
theorem dX8_canArchive_36 : decode cX8_canArchive 36 = .ok (.getfield 102, 3) := by decide +kernel
theorem dX8_canArchive_39 : decode cX8_canArchive 39 = .ok (.if_icmp .ge 38, 3) := by decide +kernel
theorem dX8_canArchive_42 : decode cX8_canArchive 42 = .ok (.iload_n 2, 1) := by decide +kernel
theorem dX8_canArchive_43 : decode cX8_canArchive 43 = .ok (.ifCond .eq 26, 3) := by decide +kernel
theorem dX8_canArchive_46 : decode cX8_canArchive 46 = .ok (.aload_n 0, 1) := by decide +kernel
theorem dX8_canArchive_47 : decode cX8_canArchive 47 = .ok (.getfield 47, 3) := by decide +kernel
theorem dX8_canArchive_50 : decode cX8_canArchive 50 = .ok (.iload_n 3, 1) := by decide +kernel
theorem dX8_canArchive_51 : decode cX8_canArchive 51 = .ok (.iaload, 1) := by decide +kernel
theorem dX8_canArchive_52 : decode cX8_canArchive 52 = .ok (.iload_n 1, 1) := by decide +kernel
theorem dX8_canArchive_53 : decode cX8_canArchive 53 = .ok (.if_icmp .ne 12, 3) := by decide +kernel
theorem dX8_canArchive_56 : decode cX8_canArchive 56 = .ok (.aload_n 0, 1) := by decide +kernel
theorem dX8_canArchive_57 : decode cX8_canArchive 57 = .ok (.getfield 56, 3) := by decide +kernel
theorem dX8_canArchive_60 : decode cX8_canArchive 60 = .ok (.iload_n 3, 1) := by decide +kernel
theorem dX8_canArchive_61 : decode cX8_canArchive 61 = .ok (.baload, 1) := by decide +kernel
theorem dX8_canArchive_62 : decode cX8_canArchive 62 = .ok (.ifCond .eq 7, 3) := by decide +kernel
theorem dX8_canArchive_65 : decode cX8_canArchive 65 = .ok (.iconst 1, 1) := by decide +kernel
theorem dX8_canArchive_66 : decode cX8_canArchive 66 = .ok (.goto 4, 3) := by decide +kernel
theorem dX8_canArchive_69 : decode cX8_canArchive 69 = .ok (.iconst 0, 1) := by decide +kernel
theorem dX8_canArchive_70 : decode cX8_canArchive 70 = .ok (.istore_n 2, 1) := by decide +kernel
theorem dX8_canArchive_71 : decode cX8_canArchive 71 = .ok (.iinc 3 1, 3) := by decide +kernel
theorem dX8_canArchive_74 : decode cX8_canArchive 74 = .ok (.goto (-40), 3) := by decide +kernel
theorem dX8_canArchive_77 : decode cX8_canArchive 77 = .ok (.iconst 0, 1) := by decide +kernel
theorem dX8_canArchive_78 : decode cX8_canArchive 78 = .ok (.istore_n 3, 1) := by decide +kernel
theorem dX8_canArchive_79 : decode cX8_canArchive 79 = .ok (.iload_n 3, 1) := by decide +kernel
theorem dX8_canArchive_80 : decode cX8_canArchive 80 = .ok (.aload_n 0, 1) := by decide +kernel
theorem dX8_canArchive_81 : decode cX8_canArchive 81 = .ok (.getfield 128, 3) := by decide +kernel
theorem dX8_canArchive_84 : decode cX8_canArchive 84 = .ok (.if_icmp .ge 38, 3) := by decide +kernel
theorem dX8_canArchive_87 : decode cX8_canArchive 87 = .ok (.iload_n 2, 1) := by decide +kernel
theorem dX8_canArchive_88 : decode cX8_canArchive 88 = .ok (.ifCond .eq 26, 3) := by decide +kernel
theorem dX8_canArchive_91 : decode cX8_canArchive 91 = .ok (.aload_n 0, 1) := by decide +kernel
theorem dX8_canArchive_92 : decode cX8_canArchive 92 = .ok (.getfield 59, 3) := by decide +kernel
theorem dX8_canArchive_95 : decode cX8_canArchive 95 = .ok (.iload_n 3, 1) := by decide +kernel
theorem dX8_canArchive_96 : decode cX8_canArchive 96 = .ok (.iaload, 1) := by decide +kernel
theorem dX8_canArchive_97 : decode cX8_canArchive 97 = .ok (.iload_n 1, 1) := by decide +kernel
theorem dX8_canArchive_98 : decode cX8_canArchive 98 = .ok (.if_icmp .ne 12, 3) := by decide +kernel
theorem dX8_canArchive_101 : decode cX8_canArchive 101 = .ok (.aload_n 0, 1) := by decide +kernel
theorem dX8_canArchive_102 : decode cX8_canArchive 102 = .ok (.getfield 71, 3) := by decide +kernel
theorem dX8_canArchive_105 : decode cX8_canArchive 105 = .ok (.iload_n 3, 1) := by decide +kernel
theorem dX8_canArchive_106 : decode cX8_canArchive 106 = .ok (.iaload, 1) := by decide +kernel
theorem dX8_canArchive_107 : decode cX8_canArchive 107 = .ok (.ifCond .eq 7, 3) := by decide +kernel
theorem dX8_canArchive_110 : decode cX8_canArchive 110 = .ok (.iconst 1, 1) := by decide +kernel
theorem dX8_canArchive_111 : decode cX8_canArchive 111 = .ok (.goto 4, 3) := by decide +kernel
theorem dX8_canArchive_114 : decode cX8_canArchive 114 = .ok (.iconst 0, 1) := by decide +kernel
theorem dX8_canArchive_115 : decode cX8_canArchive 115 = .ok (.istore_n 2, 1) := by decide +kernel
theorem dX8_canArchive_116 : decode cX8_canArchive 116 = .ok (.iinc 3 1, 3) := by decide +kernel
theorem dX8_canArchive_119 : decode cX8_canArchive 119 = .ok (.goto (-40), 3) := by decide +kernel
theorem dX8_canArchive_122 : decode cX8_canArchive 122 = .ok (.iconst 0, 1) := by decide +kernel
theorem dX8_canArchive_123 : decode cX8_canArchive 123 = .ok (.istore_n 3, 1) := by decide +kernel
theorem dX8_canArchive_124 : decode cX8_canArchive 124 = .ok (.iload_n 3, 1) := by decide +kernel
theorem dX8_canArchive_125 : decode cX8_canArchive 125 = .ok (.aload_n 0, 1) := by decide +kernel
theorem dX8_canArchive_126 : decode cX8_canArchive 126 = .ok (.getfield 91, 3) := by decide +kernel
theorem dX8_canArchive_129 : decode cX8_canArchive 129 = .ok (.if_icmp .ge 38, 3) := by decide +kernel
theorem dX8_canArchive_132 : decode cX8_canArchive 132 = .ok (.iload_n 2, 1) := by decide +kernel
theorem dX8_canArchive_133 : decode cX8_canArchive 133 = .ok (.ifCond .eq 26, 3) := by decide +kernel
theorem dX8_canArchive_136 : decode cX8_canArchive 136 = .ok (.aload_n 0, 1) := by decide +kernel
theorem dX8_canArchive_137 : decode cX8_canArchive 137 = .ok (.getfield 29, 3) := by decide +kernel
theorem dX8_canArchive_140 : decode cX8_canArchive 140 = .ok (.iload_n 3, 1) := by decide +kernel
theorem dX8_canArchive_141 : decode cX8_canArchive 141 = .ok (.iaload, 1) := by decide +kernel
theorem dX8_canArchive_142 : decode cX8_canArchive 142 = .ok (.iload_n 1, 1) := by decide +kernel
theorem dX8_canArchive_143 : decode cX8_canArchive 143 = .ok (.if_icmp .ne 12, 3) := by decide +kernel
theorem dX8_canArchive_146 : decode cX8_canArchive 146 = .ok (.aload_n 0, 1) := by decide +kernel
theorem dX8_canArchive_147 : decode cX8_canArchive 147 = .ok (.getfield 38, 3) := by decide +kernel
theorem dX8_canArchive_150 : decode cX8_canArchive 150 = .ok (.iload_n 3, 1) := by decide +kernel
theorem dX8_canArchive_151 : decode cX8_canArchive 151 = .ok (.baload, 1) := by decide +kernel
theorem dX8_canArchive_152 : decode cX8_canArchive 152 = .ok (.ifCond .eq 7, 3) := by decide +kernel
theorem dX8_canArchive_155 : decode cX8_canArchive 155 = .ok (.iconst 1, 1) := by decide +kernel
theorem dX8_canArchive_156 : decode cX8_canArchive 156 = .ok (.goto 4, 3) := by decide +kernel
theorem dX8_canArchive_159 : decode cX8_canArchive 159 = .ok (.iconst 0, 1) := by decide +kernel
theorem dX8_canArchive_160 : decode cX8_canArchive 160 = .ok (.istore_n 2, 1) := by decide +kernel
theorem dX8_canArchive_161 : decode cX8_canArchive 161 = .ok (.iinc 3 1, 3) := by decide +kernel
theorem dX8_canArchive_164 : decode cX8_canArchive 164 = .ok (.goto (-40), 3) := by decide +kernel
theorem dX8_canArchive_167 : decode cX8_canArchive 167 = .ok (.iload_n 2, 1) := by decide +kernel
theorem dX8_canArchive_168 : decode cX8_canArchive 168 = .ok (.ireturn, 1) := by decide +kernel
set_option maxHeartbeats 4000000 in
set_option maxRecDepth 100000 in
theorem c_X8_canArchive (l : Launch) (E : State) (G : kG) (S T : kSt) (o : Int64) (ad : kAd) (jm : Nat) (hm : jm < T.2 0 1) (hT : okN T) : Met l yX8_canArchive (.code yX8_canArchive cX8_canArchive 4 (some .boolean) :: wsL_law) ({ frames := 1, cells := 0, slots := 0, locals := 8 } : Room) (va_Pc [.ref (ad 16 0), .int (nI jm)] (kPre E G ad (cto G S T o ad))) (kQi E G (fun r ad1 ct1 => r = bI (canA T jm) ∧ ad = ad1 ∧ ct1 = cto G S T o ad)) 0 0 (kB E.heap.size) := by
  refine Met.ofW (cc := cX8_canArchive) (maxL := 4) (ret := (some .boolean)) (by decide) rfl ?_
  intro p e s m args below meth c s₁ B hml hv
  obtain ⟨rfl, hM, hK, hW0⟩ := hv
  have hlocks := B.notSynchronized
  have hr := B.returns
  have Z : kZ p m c cX8_canArchive 4 s _ wsL_law RX8 E G := ⟨⟨B.exec, B.bytes, hml, findClass_of_methodNamed B.named, fun w h => atoms_spec (ws := .code yX8_canArchive cX8_canArchive 4 (some .boolean) :: wsL_law) B.pre w (List.mem_cons_of_mem _ h)⟩, hM, hK⟩
  have hx := Z.1.1
  have hb := Z.1.2.1
  have X := kX.of hW0
  have hl := lv_entry ([.ref (ad 16 0), .int (nI jm)]) (n := 4) (Nat.le_of_ble_eq_true rfl)
  rw [lg_entry_eq]
  generalize (lg_sl ([.ref (ad 16 0), .int (nI jm)]) ++ List.replicate (4 - (lg_sl ([.ref (ad 16 0), .int (nI jm)])).length) Slot.unset).toArray = ls at hl ⊢
  have hl : lv_has ls 4 [(0, .ref (ad 16 0)), (1, .int (nI jm))] := hl
  have hT0 := hT
  obtain ⟨hT1, hT2, hT3, hT4, hT5, hT6, hT7⟩ := hT0
  have M_31 : ∀ (H : Heap) (locs : List Loc), kX E G s H locs ad (cto G S T o ad) → W p l e (headSpec (Cond.code yX8_canArchive cX8_canArchive 4 (some .boolean) :: wsL_law) ({ frames := 1, cells := 0, slots := 0, locals := 8 } : Room)).room s m ([.ref (ad 16 0), .int (nI jm)] : List Value).toArray below meth c H locs 0 0 (MQ below (kQi E G (fun r ad1 ct1 => r = bI (canA T jm) ∧ ad = ad1 ∧ ct1 = cto G S T o ad)) ([.ref (ad 16 0), .int (nI jm)] : List Value).toArray s 0 0 (kB E.heap.size)) (F0 m 31 ls [.int (bI (decide (T.1 8 jm = 0) && decide (¬ T.1 0 0 - T.1 6 jm < 720)))]) := by
    intro H locs X
    refine lv_istore_n (lv' := [(2, .int (bI (decide (T.1 8 jm = 0) && decide (¬ T.1 0 0 - T.1 6 jm < 720)))), (0, .ref (ad 16 0)), (1, .int (nI jm))]) hx hb dX8_canArchive_31 rfl hl (by decide) rfl (fun ls hl => ?_)
    refine lv_iconst (v := 0) hx hb dX8_canArchive_32 (by decide) ?_
    refine lv_istore_n (lv' := [(3, .int 0), (2, .int (bI (decide (T.1 8 jm = 0) && decide (¬ T.1 0 0 - T.1 6 jm < 720)))), (0, .ref (ad 16 0)), (1, .int (nI jm))]) hx hb dX8_canArchive_33 rfl hl (by decide) rfl (fun ls hl => ?_)
    have hl0 := hl
    rw [show ((decide (T.1 8 jm = 0) && decide (¬ T.1 0 0 - T.1 6 jm < 720))) = ((decide (T.1 8 jm = 0) && decide (¬ T.1 0 0 - T.1 6 jm < 720)) && noSp T jm 0) from by simp [noSp]] at hl
    have LOOP_34 : ∀ (d : Nat) (na : Nat), na ≤ T.2 0 2 → T.2 0 2 < na + d → ∀ (H : Heap) (locs : List Loc) (ls : Array Slot), kX E G s H locs ad (cto G S T o ad) → lv_has ls 4 [(3, .int (nI na)), (2, .int (bI ((decide (T.1 8 jm = 0) && decide (¬ T.1 0 0 - T.1 6 jm < 720)) && noSp T jm na))), (0, .ref (ad 16 0)), (1, .int (nI jm))] → W p l e (headSpec (Cond.code yX8_canArchive cX8_canArchive 4 (some .boolean) :: wsL_law) ({ frames := 1, cells := 0, slots := 0, locals := 8 } : Room)).room s m ([.ref (ad 16 0), .int (nI jm)] : List Value).toArray below meth c H locs 0 0 (MQ below (kQi E G (fun r ad1 ct1 => r = bI (canA T jm) ∧ ad = ad1 ∧ ct1 = cto G S T o ad)) ([.ref (ad 16 0), .int (nI jm)] : List Value).toArray s 0 0 (kB E.heap.size)) (F0 m 34 ls []) := by
      intro d
      induction d with
      | zero => intro na h1a h2a; intros; exact absurd h2a (by omega)
      | succ d ih =>
        intro na h1a h2a H locs ls X hl
        refine lv_iload_n hx hb dX8_canArchive_34 rfl (lv_at hl 0 rfl) ?_
        refine lv_aload_n hx hb dX8_canArchive_35 rfl (lv_at hl 2 rfl) ?_
        refine k_get (index := 102) (j := 15) (ad := ad) (k := 16) (i := 0) Z X ct_16 inlX8 rfl (by decide) (inU_12 _ (List.mem_of_getElem? (i := 17) rfl)) (fun _ h => h) (v := .int (nI (T.2 0 2))) rfl dX8_canArchive_36 ?_
        refine lv_icmp_ge (tgt := 77) hx hb dX8_canArchive_39 (by decide) (fun c_39 => ?_) (fun c_39 => ?_)
        · have c_39 : (T.2 0 2) ≤ na := (nI_leI (a := (T.2 0 2)) (b := na) (by omega) (by omega)).mp c_39
          have hna : na = T.2 0 2 := by omega
          subst hna
          refine lv_iconst (v := 0) hx hb dX8_canArchive_77 (by decide) ?_
          refine lv_istore_n (lv' := [(3, .int 0), (2, .int (bI ((decide (T.1 8 jm = 0) && decide (¬ T.1 0 0 - T.1 6 jm < 720)) && noSp T jm (T.2 0 2)))), (0, .ref (ad 16 0)), (1, .int (nI jm))]) hx hb dX8_canArchive_78 rfl hl (by decide) rfl (fun ls hl => ?_)
          have hl0 := hl
          rw [show ((decide (T.1 8 jm = 0) && decide (¬ T.1 0 0 - T.1 6 jm < 720)) && noSp T jm (T.2 0 2)) = ((decide (T.1 8 jm = 0) && decide (¬ T.1 0 0 - T.1 6 jm < 720)) && noSp T jm (T.2 0 2) && noTk T jm 0) from by simp [noTk]] at hl
          have LOOP_79 : ∀ (d : Nat) (nb : Nat), nb ≤ T.2 0 3 → T.2 0 3 < nb + d → ∀ (H : Heap) (locs : List Loc) (ls : Array Slot), kX E G s H locs ad (cto G S T o ad) → lv_has ls 4 [(3, .int (nI nb)), (2, .int (bI ((decide (T.1 8 jm = 0) && decide (¬ T.1 0 0 - T.1 6 jm < 720)) && noSp T jm (T.2 0 2) && noTk T jm nb))), (0, .ref (ad 16 0)), (1, .int (nI jm))] → W p l e (headSpec (Cond.code yX8_canArchive cX8_canArchive 4 (some .boolean) :: wsL_law) ({ frames := 1, cells := 0, slots := 0, locals := 8 } : Room)).room s m ([.ref (ad 16 0), .int (nI jm)] : List Value).toArray below meth c H locs 0 0 (MQ below (kQi E G (fun r ad1 ct1 => r = bI (canA T jm) ∧ ad = ad1 ∧ ct1 = cto G S T o ad)) ([.ref (ad 16 0), .int (nI jm)] : List Value).toArray s 0 0 (kB E.heap.size)) (F0 m 79 ls []) := by
            intro d
            induction d with
            | zero => intro nb h1b h2b; intros; exact absurd h2b (by omega)
            | succ d ih =>
              intro nb h1b h2b H locs ls X hl
              refine lv_iload_n hx hb dX8_canArchive_79 rfl (lv_at hl 0 rfl) ?_
              refine lv_aload_n hx hb dX8_canArchive_80 rfl (lv_at hl 2 rfl) ?_
              refine k_get (index := 128) (j := 20) (ad := ad) (k := 16) (i := 0) Z X ct_16 inlX8 rfl (by decide) (inU_18 _ (List.mem_of_getElem? (i := 1) rfl)) (fun _ h => h) (v := .int (nI (T.2 0 3))) rfl dX8_canArchive_81 ?_
              refine lv_icmp_ge (tgt := 122) hx hb dX8_canArchive_84 (by decide) (fun c_84 => ?_) (fun c_84 => ?_)
              · have c_84 : (T.2 0 3) ≤ nb := (nI_leI (a := (T.2 0 3)) (b := nb) (by omega) (by omega)).mp c_84
                have hnb : nb = T.2 0 3 := by omega
                subst hnb
                refine lv_iconst (v := 0) hx hb dX8_canArchive_122 (by decide) ?_
                refine lv_istore_n (lv' := [(3, .int 0), (2, .int (bI ((decide (T.1 8 jm = 0) && decide (¬ T.1 0 0 - T.1 6 jm < 720)) && noSp T jm (T.2 0 2) && noTk T jm (T.2 0 3)))), (0, .ref (ad 16 0)), (1, .int (nI jm))]) hx hb dX8_canArchive_123 rfl hl (by decide) rfl (fun ls hl => ?_)
                have hl0 := hl
                rw [show (((decide (T.1 8 jm = 0) && decide (¬ T.1 0 0 - T.1 6 jm < 720)) && noSp T jm (T.2 0 2)) && noTk T jm (T.2 0 3)) = (((decide (T.1 8 jm = 0) && decide (¬ T.1 0 0 - T.1 6 jm < 720)) && noSp T jm (T.2 0 2)) && noTk T jm (T.2 0 3) && noRp T jm 0) from by simp [noRp]] at hl
                have LOOP_124 : ∀ (d : Nat) (nc : Nat), nc ≤ T.2 0 1 → T.2 0 1 < nc + d → ∀ (H : Heap) (locs : List Loc) (ls : Array Slot), kX E G s H locs ad (cto G S T o ad) → lv_has ls 4 [(3, .int (nI nc)), (2, .int (bI (((decide (T.1 8 jm = 0) && decide (¬ T.1 0 0 - T.1 6 jm < 720)) && noSp T jm (T.2 0 2)) && noTk T jm (T.2 0 3) && noRp T jm nc))), (0, .ref (ad 16 0)), (1, .int (nI jm))] → W p l e (headSpec (Cond.code yX8_canArchive cX8_canArchive 4 (some .boolean) :: wsL_law) ({ frames := 1, cells := 0, slots := 0, locals := 8 } : Room)).room s m ([.ref (ad 16 0), .int (nI jm)] : List Value).toArray below meth c H locs 0 0 (MQ below (kQi E G (fun r ad1 ct1 => r = bI (canA T jm) ∧ ad = ad1 ∧ ct1 = cto G S T o ad)) ([.ref (ad 16 0), .int (nI jm)] : List Value).toArray s 0 0 (kB E.heap.size)) (F0 m 124 ls []) := by
                  intro d
                  induction d with
                  | zero => intro nc h1c h2c; intros; exact absurd h2c (by omega)
                  | succ d ih =>
                    intro nc h1c h2c H locs ls X hl
                    refine lv_iload_n hx hb dX8_canArchive_124 rfl (lv_at hl 0 rfl) ?_
                    refine lv_aload_n hx hb dX8_canArchive_125 rfl (lv_at hl 2 rfl) ?_
                    refine k_get (index := 91) (j := 6) (ad := ad) (k := 16) (i := 0) Z X ct_16 inlX8 rfl (by decide) (inU_16 _ (List.mem_of_getElem? (i := 12) rfl)) (fun _ h => h) (v := .int (nI (T.2 0 1))) rfl dX8_canArchive_126 ?_
                    refine lv_icmp_ge (tgt := 167) hx hb dX8_canArchive_129 (by decide) (fun c_129 => ?_) (fun c_129 => ?_)
                    · have c_129 : (T.2 0 1) ≤ nc := (nI_leI (a := (T.2 0 1)) (b := nc) (by omega) (by omega)).mp c_129
                      have hnc : nc = T.2 0 1 := by omega
                      subst hnc
                      refine lv_iload_n hx hb dX8_canArchive_167 rfl (lv_at hl 1 rfl) ?_
                      exact k_iret Z X hr hlocks bI_nar (Nat.le_of_ble_eq_true rfl) (Nat.le_of_ble_eq_true rfl) dX8_canArchive_168 ⟨congrArg bI (by simp only [canA, Bool.and_assoc]), rfl, rfl⟩
                    · have c_129 : ¬ (T.2 0 1) ≤ nc := fun h => c_129 ((nI_leI (a := (T.2 0 1)) (b := nc) (by omega) (by omega)).mpr h)
                      have M_160 : ∀ (H : Heap) (locs : List Loc), kX E G s H locs ad (cto G S T o ad) → W p l e (headSpec (Cond.code yX8_canArchive cX8_canArchive 4 (some .boolean) :: wsL_law) ({ frames := 1, cells := 0, slots := 0, locals := 8 } : Room)).room s m ([.ref (ad 16 0), .int (nI jm)] : List Value).toArray below meth c H locs 0 0 (MQ below (kQi E G (fun r ad1 ct1 => r = bI (canA T jm) ∧ ad = ad1 ∧ ct1 = cto G S T o ad)) ([.ref (ad 16 0), .int (nI jm)] : List Value).toArray s 0 0 (kB E.heap.size)) (F0 m 160 ls [.int (bI (((decide (T.1 8 jm = 0) && decide (¬ T.1 0 0 - T.1 6 jm < 720)) && noSp T jm (T.2 0 2)) && noTk T jm (T.2 0 3) && noRp T jm (nc + 1)))]) := by
                        intro H locs X
                        refine lv_istore_n (lv' := [(2, .int (bI (((decide (T.1 8 jm = 0) && decide (¬ T.1 0 0 - T.1 6 jm < 720)) && noSp T jm (T.2 0 2)) && noTk T jm (T.2 0 3) && noRp T jm (nc + 1)))), (3, .int (nI nc)), (0, .ref (ad 16 0)), (1, .int (nI jm))]) hx hb dX8_canArchive_160 rfl hl (by decide) rfl (fun ls hl => ?_)
                        refine lv_iinc (v := (nI (nc + 1))) (lv' := [(3, .int (nI (nc + 1))), (2, .int (bI (((decide (T.1 8 jm = 0) && decide (¬ T.1 0 0 - T.1 6 jm < 720)) && noSp T jm (T.2 0 2)) && noTk T jm (T.2 0 3) && noRp T jm (nc + 1)))), (0, .ref (ad 16 0)), (1, .int (nI jm))]) hx hb dX8_canArchive_161 hl (k := 1) rfl (nI_1 _) (by decide) rfl (fun ls hl => ?_)
                        refine lv_goto (tgt := 124) hx hb dX8_canArchive_164 (by decide) ?_
                        exact ih (nc + 1) (by omega) (by omega) _ _ _ X (lv_sub hl [0, 1, 2, 3] rfl)
                      refine lv_iload_n hx hb dX8_canArchive_132 rfl (lv_at hl 1 rfl) ?_
                      refine lv_if_eq (tgt := 159) hx hb dX8_canArchive_133 (by decide) (fun c_133 => ?_) (fun c_133 => ?_)
                      · have c_133 : (((decide (T.1 8 jm = 0) && decide (¬ T.1 0 0 - T.1 6 jm < 720)) && noSp T jm (T.2 0 2)) && noTk T jm (T.2 0 3) && noRp T jm nc) = false := bI_0 c_133
                        refine lv_iconst (v := 0) hx hb dX8_canArchive_159 (by decide) ?_
                        exact W.eq (congrArg (fun z => F0 m 160 ls (.int z :: [])) (bI_f (by rw [noRp, ← Bool.and_assoc, c_133]; rfl))) (M_160 _ _ X)
                      · have c_133 : (((decide (T.1 8 jm = 0) && decide (¬ T.1 0 0 - T.1 6 jm < 720)) && noSp T jm (T.2 0 2)) && noTk T jm (T.2 0 3) && noRp T jm nc) = true := bI_1 c_133
                        refine lv_aload_n hx hb dX8_canArchive_136 rfl (lv_at hl 2 rfl) ?_
                        refine k_get (index := 29) (j := 9) (ad := ad) (k := 16) (i := 0) Z X ct_16 inlX8 rfl (by decide) (inU_6 _ (List.mem_of_getElem? (i := 13) rfl)) (fun _ h => h) (v := .ref (ad 17 6)) rfl dX8_canArchive_137 ?_
                        refine lv_iload_n hx hb dX8_canArchive_140 rfl (lv_at hl 0 rfl) ?_
                        refine k_ild (ad := ad) (k := 17) (i := 6) Z X ct_17_6 (vp_in_nI (by first | assumption | omega) (by decide)) dX8_canArchive_141 ?_
                        refine lv_topi (fun x_141 e_141 => ?_)
                        obtain rfl : x_141 = T.1 5 nc := e_141.trans (by first | (simp only [nI_clamp (show nc < 2 ^ 31 by omega)]; done) | (simp only [nI_clamp (show nc < 2 ^ 31 by omega)]; rfl) | (simp only [nI_clamp (show nc < 2 ^ 31 by omega)]; simp [sI, sN]; done))
                        refine lv_iload_n hx hb dX8_canArchive_142 rfl (lv_at hl 3 rfl) ?_
                        refine lv_icmp_ne (tgt := 155) hx hb dX8_canArchive_143 (by decide) (fun c_143 => ?_) (fun c_143 => ?_)
                        · refine lv_iconst (v := 1) hx hb dX8_canArchive_155 (by decide) ?_
                          refine lv_goto (tgt := 160) hx hb dX8_canArchive_156 (by decide) ?_
                          exact W.eq (congrArg (fun z => F0 m 160 ls (.int z :: [])) (bI_t (by rw [noRp, ← Bool.and_assoc, c_133, Bool.true_and]; simp [c_143]))) (M_160 _ _ X)
                        · refine lv_aload_n hx hb dX8_canArchive_146 rfl (lv_at hl 2 rfl) ?_
                          refine k_get (index := 38) (j := 12) (ad := ad) (k := 16) (i := 0) Z X ct_16 inlX8 rfl (by decide) (inU_6 _ (List.mem_of_getElem? (i := 16) rfl)) (fun _ h => h) (v := .ref (ad 17 9)) rfl dX8_canArchive_147 ?_
                          refine lv_iload_n hx hb dX8_canArchive_150 rfl (lv_at hl 0 rfl) ?_
                          refine k_zld (ad := ad) (k := 17) (i := 9) Z X ct_17_9 (vp_in_nI (by first | assumption | omega) (by decide)) dX8_canArchive_151 ?_
                          refine lv_topi (fun x_151 e_151 => ?_)
                          obtain rfl : x_151 = T.1 8 nc := e_151.trans (by first | (simp only [nI_clamp (show nc < 2 ^ 31 by omega)]; done) | (simp only [nI_clamp (show nc < 2 ^ 31 by omega)]; rfl) | (simp only [nI_clamp (show nc < 2 ^ 31 by omega)]; simp [sI, sN]; done))
                          refine lv_if_eq (tgt := 159) hx hb dX8_canArchive_152 (by decide) (fun c_152 => ?_) (fun c_152 => ?_)
                          · refine lv_iconst (v := 0) hx hb dX8_canArchive_159 (by decide) ?_
                            exact W.eq (congrArg (fun z => F0 m 160 ls (.int z :: [])) (bI_f (by rw [noRp, ← Bool.and_assoc, c_133, Bool.true_and]; simp [c_143, c_152]))) (M_160 _ _ X)
                          · refine lv_iconst (v := 1) hx hb dX8_canArchive_155 (by decide) ?_
                            refine lv_goto (tgt := 160) hx hb dX8_canArchive_156 (by decide) ?_
                            exact W.eq (congrArg (fun z => F0 m 160 ls (.int z :: [])) (bI_t (by rw [noRp, ← Bool.and_assoc, c_133, Bool.true_and]; simp [c_143, c_152]))) (M_160 _ _ X)
                exact LOOP_124 (T.2 0 1 + 1) 0 (by omega) (by omega) _ _ _ X (lv_sub hl [0, 1, 2, 3] rfl)
              · have c_84 : ¬ (T.2 0 3) ≤ nb := fun h => c_84 ((nI_leI (a := (T.2 0 3)) (b := nb) (by omega) (by omega)).mpr h)
                have M_115 : ∀ (H : Heap) (locs : List Loc), kX E G s H locs ad (cto G S T o ad) → W p l e (headSpec (Cond.code yX8_canArchive cX8_canArchive 4 (some .boolean) :: wsL_law) ({ frames := 1, cells := 0, slots := 0, locals := 8 } : Room)).room s m ([.ref (ad 16 0), .int (nI jm)] : List Value).toArray below meth c H locs 0 0 (MQ below (kQi E G (fun r ad1 ct1 => r = bI (canA T jm) ∧ ad = ad1 ∧ ct1 = cto G S T o ad)) ([.ref (ad 16 0), .int (nI jm)] : List Value).toArray s 0 0 (kB E.heap.size)) (F0 m 115 ls [.int (bI ((decide (T.1 8 jm = 0) && decide (¬ T.1 0 0 - T.1 6 jm < 720)) && noSp T jm (T.2 0 2) && noTk T jm (nb + 1)))]) := by
                  intro H locs X
                  refine lv_istore_n (lv' := [(2, .int (bI ((decide (T.1 8 jm = 0) && decide (¬ T.1 0 0 - T.1 6 jm < 720)) && noSp T jm (T.2 0 2) && noTk T jm (nb + 1)))), (3, .int (nI nb)), (0, .ref (ad 16 0)), (1, .int (nI jm))]) hx hb dX8_canArchive_115 rfl hl (by decide) rfl (fun ls hl => ?_)
                  refine lv_iinc (v := (nI (nb + 1))) (lv' := [(3, .int (nI (nb + 1))), (2, .int (bI ((decide (T.1 8 jm = 0) && decide (¬ T.1 0 0 - T.1 6 jm < 720)) && noSp T jm (T.2 0 2) && noTk T jm (nb + 1)))), (0, .ref (ad 16 0)), (1, .int (nI jm))]) hx hb dX8_canArchive_116 hl (k := 1) rfl (nI_1 _) (by decide) rfl (fun ls hl => ?_)
                  refine lv_goto (tgt := 79) hx hb dX8_canArchive_119 (by decide) ?_
                  exact ih (nb + 1) (by omega) (by omega) _ _ _ X (lv_sub hl [0, 1, 2, 3] rfl)
                refine lv_iload_n hx hb dX8_canArchive_87 rfl (lv_at hl 1 rfl) ?_
                refine lv_if_eq (tgt := 114) hx hb dX8_canArchive_88 (by decide) (fun c_88 => ?_) (fun c_88 => ?_)
                · have c_88 : ((decide (T.1 8 jm = 0) && decide (¬ T.1 0 0 - T.1 6 jm < 720)) && noSp T jm (T.2 0 2) && noTk T jm nb) = false := bI_0 c_88
                  refine lv_iconst (v := 0) hx hb dX8_canArchive_114 (by decide) ?_
                  exact W.eq (congrArg (fun z => F0 m 115 ls (.int z :: [])) (bI_f (by rw [noTk, ← Bool.and_assoc, c_88]; rfl))) (M_115 _ _ X)
                · have c_88 : ((decide (T.1 8 jm = 0) && decide (¬ T.1 0 0 - T.1 6 jm < 720)) && noSp T jm (T.2 0 2) && noTk T jm nb) = true := bI_1 c_88
                  refine lv_aload_n hx hb dX8_canArchive_91 rfl (lv_at hl 2 rfl) ?_
                  refine k_get (index := 59) (j := 21) (ad := ad) (k := 16) (i := 0) Z X ct_16 inlX8 rfl (by decide) (inU_6 _ (List.mem_of_getElem? (i := 23) rfl)) (fun _ h => h) (v := .ref (ad 17 16)) rfl dX8_canArchive_92 ?_
                  refine lv_iload_n hx hb dX8_canArchive_95 rfl (lv_at hl 0 rfl) ?_
                  refine k_ild (ad := ad) (k := 17) (i := 16) Z X ct_17_16 (vp_in_nI (by first | assumption | omega) (by decide)) dX8_canArchive_96 ?_
                  refine lv_topi (fun x_96 e_96 => ?_)
                  obtain rfl : x_96 = nI (T.2 4 nb) := e_96.trans (by first | (simp only [nI_clamp (show nb < 2 ^ 31 by omega)]; done) | (simp only [nI_clamp (show nb < 2 ^ 31 by omega)]; rfl) | (simp only [nI_clamp (show nb < 2 ^ 31 by omega)]; simp [sI, sN]; done))
                  refine lv_iload_n hx hb dX8_canArchive_97 rfl (lv_at hl 3 rfl) ?_
                  refine lv_icmp_ne (tgt := 110) hx hb dX8_canArchive_98 (by decide) (fun c_98 => ?_) (fun c_98 => ?_)
                  · have c_98 : ¬ (T.2 4 nb) = jm := fun h => c_98 ((nI_eq (a := (T.2 4 nb)) (b := jm) (by have := (hT7 nb (by omega)).1; omega) (by omega)).mpr h)
                    refine lv_iconst (v := 1) hx hb dX8_canArchive_110 (by decide) ?_
                    refine lv_goto (tgt := 115) hx hb dX8_canArchive_111 (by decide) ?_
                    exact W.eq (congrArg (fun z => F0 m 115 ls (.int z :: [])) (bI_t (by rw [noTk, ← Bool.and_assoc, c_88, Bool.true_and]; simp [c_98]))) (M_115 _ _ X)
                  · have c_98 : (T.2 4 nb) = jm := (nI_eq (a := (T.2 4 nb)) (b := jm) (by have := (hT7 nb (by omega)).1; omega) (by omega)).mp c_98
                    refine lv_aload_n hx hb dX8_canArchive_101 rfl (lv_at hl 2 rfl) ?_
                    refine k_get (index := 71) (j := 25) (ad := ad) (k := 16) (i := 0) Z X ct_16 inlX8 rfl (by decide) (inU_7 _ (List.mem_of_getElem? (i := 3) rfl)) (fun _ h => h) (v := .ref (ad 17 20)) rfl dX8_canArchive_102 ?_
                    refine lv_iload_n hx hb dX8_canArchive_105 rfl (lv_at hl 0 rfl) ?_
                    refine k_ild (ad := ad) (k := 17) (i := 20) Z X ct_17_20 (vp_in_nI (by first | assumption | omega) (by decide)) dX8_canArchive_106 ?_
                    refine lv_topi (fun x_106 e_106 => ?_)
                    obtain rfl : x_106 = T.1 14 nb := e_106.trans (by first | (simp only [nI_clamp (show nb < 2 ^ 31 by omega)]; done) | (simp only [nI_clamp (show nb < 2 ^ 31 by omega)]; rfl) | (simp only [nI_clamp (show nb < 2 ^ 31 by omega)]; simp [sI, sN]; done))
                    refine lv_if_eq (tgt := 114) hx hb dX8_canArchive_107 (by decide) (fun c_107 => ?_) (fun c_107 => ?_)
                    · refine lv_iconst (v := 0) hx hb dX8_canArchive_114 (by decide) ?_
                      exact W.eq (congrArg (fun z => F0 m 115 ls (.int z :: [])) (bI_f (by rw [noTk, ← Bool.and_assoc, c_88, Bool.true_and]; simp [c_98, c_107]))) (M_115 _ _ X)
                    · refine lv_iconst (v := 1) hx hb dX8_canArchive_110 (by decide) ?_
                      refine lv_goto (tgt := 115) hx hb dX8_canArchive_111 (by decide) ?_
                      exact W.eq (congrArg (fun z => F0 m 115 ls (.int z :: [])) (bI_t (by rw [noTk, ← Bool.and_assoc, c_88, Bool.true_and]; simp [c_98, c_107]))) (M_115 _ _ X)
          exact LOOP_79 (T.2 0 3 + 1) 0 (by omega) (by omega) _ _ _ X (lv_sub hl [0, 1, 2, 3] rfl)
        · have c_39 : ¬ (T.2 0 2) ≤ na := fun h => c_39 ((nI_leI (a := (T.2 0 2)) (b := na) (by omega) (by omega)).mpr h)
          have M_70 : ∀ (H : Heap) (locs : List Loc), kX E G s H locs ad (cto G S T o ad) → W p l e (headSpec (Cond.code yX8_canArchive cX8_canArchive 4 (some .boolean) :: wsL_law) ({ frames := 1, cells := 0, slots := 0, locals := 8 } : Room)).room s m ([.ref (ad 16 0), .int (nI jm)] : List Value).toArray below meth c H locs 0 0 (MQ below (kQi E G (fun r ad1 ct1 => r = bI (canA T jm) ∧ ad = ad1 ∧ ct1 = cto G S T o ad)) ([.ref (ad 16 0), .int (nI jm)] : List Value).toArray s 0 0 (kB E.heap.size)) (F0 m 70 ls [.int (bI ((decide (T.1 8 jm = 0) && decide (¬ T.1 0 0 - T.1 6 jm < 720)) && noSp T jm (na + 1)))]) := by
            intro H locs X
            refine lv_istore_n (lv' := [(2, .int (bI ((decide (T.1 8 jm = 0) && decide (¬ T.1 0 0 - T.1 6 jm < 720)) && noSp T jm (na + 1)))), (3, .int (nI na)), (0, .ref (ad 16 0)), (1, .int (nI jm))]) hx hb dX8_canArchive_70 rfl hl (by decide) rfl (fun ls hl => ?_)
            refine lv_iinc (v := (nI (na + 1))) (lv' := [(3, .int (nI (na + 1))), (2, .int (bI ((decide (T.1 8 jm = 0) && decide (¬ T.1 0 0 - T.1 6 jm < 720)) && noSp T jm (na + 1)))), (0, .ref (ad 16 0)), (1, .int (nI jm))]) hx hb dX8_canArchive_71 hl (k := 1) rfl (nI_1 _) (by decide) rfl (fun ls hl => ?_)
            refine lv_goto (tgt := 34) hx hb dX8_canArchive_74 (by decide) ?_
            exact ih (na + 1) (by omega) (by omega) _ _ _ X (lv_sub hl [0, 1, 2, 3] rfl)
          refine lv_iload_n hx hb dX8_canArchive_42 rfl (lv_at hl 1 rfl) ?_
          refine lv_if_eq (tgt := 69) hx hb dX8_canArchive_43 (by decide) (fun c_43 => ?_) (fun c_43 => ?_)
          · have c_43 : ((decide (T.1 8 jm = 0) && decide (¬ T.1 0 0 - T.1 6 jm < 720)) && noSp T jm na) = false := bI_0 c_43
            refine lv_iconst (v := 0) hx hb dX8_canArchive_69 (by decide) ?_
            exact W.eq (congrArg (fun z => F0 m 70 ls (.int z :: [])) (bI_f (by rw [noSp, ← Bool.and_assoc, c_43]; rfl))) (M_70 _ _ X)
          · have c_43 : ((decide (T.1 8 jm = 0) && decide (¬ T.1 0 0 - T.1 6 jm < 720)) && noSp T jm na) = true := bI_1 c_43
            refine lv_aload_n hx hb dX8_canArchive_46 rfl (lv_at hl 2 rfl) ?_
            refine k_get (index := 47) (j := 16) (ad := ad) (k := 16) (i := 0) Z X ct_16 inlX8 rfl (by decide) (inU_6 _ (List.mem_of_getElem? (i := 19) rfl)) (fun _ h => h) (v := .ref (ad 17 12)) rfl dX8_canArchive_47 ?_
            refine lv_iload_n hx hb dX8_canArchive_50 rfl (lv_at hl 0 rfl) ?_
            refine k_ild (ad := ad) (k := 17) (i := 12) Z X ct_17_12 (vp_in_nI (by first | assumption | omega) (by decide)) dX8_canArchive_51 ?_
            refine lv_topi (fun x_51 e_51 => ?_)
            obtain rfl : x_51 = nI (T.2 3 na) := e_51.trans (by first | (simp only [nI_clamp (show na < 2 ^ 31 by omega)]; done) | (simp only [nI_clamp (show na < 2 ^ 31 by omega)]; rfl) | (simp only [nI_clamp (show na < 2 ^ 31 by omega)]; simp [sI, sN]; done))
            refine lv_iload_n hx hb dX8_canArchive_52 rfl (lv_at hl 3 rfl) ?_
            refine lv_icmp_ne (tgt := 65) hx hb dX8_canArchive_53 (by decide) (fun c_53 => ?_) (fun c_53 => ?_)
            · have c_53 : ¬ (T.2 3 na) = jm := fun h => c_53 ((nI_eq (a := (T.2 3 na)) (b := jm) (by have := hT6 na (by omega); omega) (by omega)).mpr h)
              refine lv_iconst (v := 1) hx hb dX8_canArchive_65 (by decide) ?_
              refine lv_goto (tgt := 70) hx hb dX8_canArchive_66 (by decide) ?_
              exact W.eq (congrArg (fun z => F0 m 70 ls (.int z :: [])) (bI_t (by rw [noSp, ← Bool.and_assoc, c_43, Bool.true_and]; simp [c_53]))) (M_70 _ _ X)
            · have c_53 : (T.2 3 na) = jm := (nI_eq (a := (T.2 3 na)) (b := jm) (by have := hT6 na (by omega); omega) (by omega)).mp c_53
              refine lv_aload_n hx hb dX8_canArchive_56 rfl (lv_at hl 2 rfl) ?_
              refine k_get (index := 56) (j := 19) (ad := ad) (k := 16) (i := 0) Z X ct_16 inlX8 rfl (by decide) (inU_6 _ (List.mem_of_getElem? (i := 22) rfl)) (fun _ h => h) (v := .ref (ad 17 15)) rfl dX8_canArchive_57 ?_
              refine lv_iload_n hx hb dX8_canArchive_60 rfl (lv_at hl 0 rfl) ?_
              refine k_zld (ad := ad) (k := 17) (i := 15) Z X ct_17_15 (vp_in_nI (by first | assumption | omega) (by decide)) dX8_canArchive_61 ?_
              refine lv_topi (fun x_61 e_61 => ?_)
              obtain rfl : x_61 = T.1 12 na := e_61.trans (by first | (simp only [nI_clamp (show na < 2 ^ 31 by omega)]; done) | (simp only [nI_clamp (show na < 2 ^ 31 by omega)]; rfl) | (simp only [nI_clamp (show na < 2 ^ 31 by omega)]; simp [sI, sN]; done))
              refine lv_if_eq (tgt := 69) hx hb dX8_canArchive_62 (by decide) (fun c_62 => ?_) (fun c_62 => ?_)
              · refine lv_iconst (v := 0) hx hb dX8_canArchive_69 (by decide) ?_
                exact W.eq (congrArg (fun z => F0 m 70 ls (.int z :: [])) (bI_f (by rw [noSp, ← Bool.and_assoc, c_43, Bool.true_and]; simp [c_53, c_62]))) (M_70 _ _ X)
              · refine lv_iconst (v := 1) hx hb dX8_canArchive_65 (by decide) ?_
                refine lv_goto (tgt := 70) hx hb dX8_canArchive_66 (by decide) ?_
                exact W.eq (congrArg (fun z => F0 m 70 ls (.int z :: [])) (bI_t (by rw [noSp, ← Bool.and_assoc, c_43, Bool.true_and]; simp [c_53, c_62]))) (M_70 _ _ X)
    exact LOOP_34 (T.2 0 2 + 1) 0 (by omega) (by omega) _ _ _ X (lv_sub hl [0, 1, 2, 3] rfl)
  refine lv_aload_n hx hb dX8_canArchive_0 rfl (lv_at hl 0 rfl) ?_
  refine k_get (index := 38) (j := 12) (ad := ad) (k := 16) (i := 0) Z X ct_16 inlX8 rfl (by decide) (inU_6 _ (List.mem_of_getElem? (i := 16) rfl)) (fun _ h => h) (v := .ref (ad 17 9)) rfl dX8_canArchive_1 ?_
  refine lv_iload_n hx hb dX8_canArchive_4 rfl (lv_at hl 1 rfl) ?_
  refine k_zld (ad := ad) (k := 17) (i := 9) Z X ct_17_9 (vp_in_nI (by first | assumption | omega) (by decide)) dX8_canArchive_5 ?_
  refine lv_topi (fun x_5 e_5 => ?_)
  obtain rfl : x_5 = T.1 8 jm := e_5.trans (by first | (simp only [nI_clamp (show jm < 2 ^ 31 by omega)]; done) | (simp only [nI_clamp (show jm < 2 ^ 31 by omega)]; rfl) | (simp only [nI_clamp (show jm < 2 ^ 31 by omega)]; simp [sI, sN]; done))
  refine lv_if_ne (tgt := 30) hx hb dX8_canArchive_6 (by decide) (fun c_6 => ?_) (fun c_6 => ?_)
  · refine lv_iconst (v := 0) hx hb dX8_canArchive_30 (by decide) ?_
    exact W.eq (congrArg (fun z => F0 m 31 ls (.int z :: [])) (bI_f (by simp [c_6]))) (M_31 _ _ X)
  · refine lv_aload_n hx hb dX8_canArchive_9 rfl (lv_at hl 0 rfl) ?_
    refine k_get (index := 88) (j := 0) (ad := ad) (k := 16) (i := 0) Z X ct_16 inlX8 rfl (by decide) (inU_13 _ (List.mem_of_getElem? (i := 6) rfl)) (fun _ h => h) (v := .int (T.1 0 0)) rfl dX8_canArchive_10 ?_
    refine lv_aload_n hx hb dX8_canArchive_13 rfl (lv_at hl 0 rfl) ?_
    refine k_get (index := 35) (j := 11) (ad := ad) (k := 16) (i := 0) Z X ct_16 inlX8 rfl (by decide) (inU_6 _ (List.mem_of_getElem? (i := 15) rfl)) (fun _ h => h) (v := .ref (ad 17 8)) rfl dX8_canArchive_14 ?_
    refine lv_iload_n hx hb dX8_canArchive_17 rfl (lv_at hl 1 rfl) ?_
    refine k_ild (ad := ad) (k := 17) (i := 8) Z X ct_17_8 (vp_in_nI (by first | assumption | omega) (by decide)) dX8_canArchive_18 ?_
    refine lv_topi (fun x_18 e_18 => ?_)
    obtain rfl : x_18 = T.1 6 jm := e_18.trans (by first | (simp only [nI_clamp (show jm < 2 ^ 31 by omega)]; done) | (simp only [nI_clamp (show jm < 2 ^ 31 by omega)]; rfl) | (simp only [nI_clamp (show jm < 2 ^ 31 by omega)]; simp [sI, sN]; done))
    refine lv_isub hx hb dX8_canArchive_19 ?_
    refine lv_sipush (v := 720) hx hb dX8_canArchive_20 (by decide) ?_
    refine lv_icmp_lt (tgt := 30) hx hb dX8_canArchive_23 (by decide) (fun c_23 => ?_) (fun c_23 => ?_)
    · refine lv_iconst (v := 0) hx hb dX8_canArchive_30 (by decide) ?_
      exact W.eq (congrArg (fun z => F0 m 31 ls (.int z :: [])) (bI_f (by simp [c_6, c_23]))) (M_31 _ _ X)
    · refine lv_iconst (v := 1) hx hb dX8_canArchive_26 (by decide) ?_
      refine lv_goto (tgt := 31) hx hb dX8_canArchive_27 (by decide) ?_
      exact W.eq (congrArg (fun z => F0 m 31 ls (.int z :: [])) (bI_t (by simp [c_6, c_23]))) (M_31 _ _ X)
