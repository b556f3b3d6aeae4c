theorem dX8_next_0 : decode cX8_next 0 = .ok (.aload_n 0, 1) := by decide +kernel
theorem dX8_next_1 : decode cX8_next 1 = .ok (.aload_n 0, 1) := by decide +kernel
theorem dX8_next_2 : decode cX8_next 2 = .ok (.iload_n 1, 1) := by decide +kernel
theorem dX8_next_3 : decode cX8_next 3 = .ok (.invokevirtual 114, 3) := by decide +kernel
theorem dX8_next_6 : decode cX8_next 6 = .ok (.ifCond .eq 11, 3) := by decide +kernel
theorem dX8_next_9 : decode cX8_next 9 = .ok (.iload_n 2, 1) := by decide +kernel
theorem dX8_next_10 : decode cX8_next 10 = .ok (.ifCond .lt 7, 3) := by decide +kernel
theorem dX8_next_13 : decode cX8_next 13 = .ok (.iconst 0, 1) := by decide +kernel
theorem dX8_next_14 : decode cX8_next 14 = .ok (.goto 4, 3) := by decide +kernel
theorem dX8_next_17 : decode cX8_next 17 = .ok (.iconst 1, 1) := by decide +kernel
theorem dX8_next_18 : decode cX8_next 18 = .ok (.invokevirtual 111, 3) := by decide +kernel
theorem dX8_next_21 : decode cX8_next 21 = .ok (.ifCond .eq 5, 3) := by decide +kernel
theorem dX8_next_24 : decode cX8_next 24 = .ok (.iconst 0, 1) := by decide +kernel
theorem dX8_next_25 : decode cX8_next 25 = .ok (.ireturn, 1) := by decide +kernel
theorem dX8_next_26 : decode cX8_next 26 = .ok (.iconst (-1), 1) := by decide +kernel
theorem dX8_next_27 : decode cX8_next 27 = .ok (.istore_n 3, 1) := by decide +kernel
theorem dX8_next_28 : decode cX8_next 28 = .ok (.iconst 0, 1) := by decide +kernel
theorem dX8_next_29 : decode cX8_next 29 = .ok (.istore 4, 2) := by decide +kernel
theorem dX8_next_31 : decode cX8_next 31 = .ok (.iload 4, 2) := by decide +kernel
theorem dX8_next_33 : decode cX8_next 33 = .ok (.aload_n 0, 1) := by decide +kernel
theorem dX8_next_34 : decode cX8_next 34 = .ok (.getfield 128, 3) := by decide +kernel
theorem dX8_next_37 : decode cX8_next 37 = .ok (.if_icmp .ge 148, 3) := by decide +kernel
theorem dX8_next_40 : decode cX8_next 40 = .ok (.iconst 0, 1) := by decide +kernel
theorem dX8_next_41 : decode cX8_next 41 = .ok (.istore 5, 2) := by decide +kernel
theorem dX8_next_43 : decode cX8_next 43 = .ok (.iconst 0, 1) := by decide +kernel
theorem dX8_next_44 : decode cX8_next 44 = .ok (.istore 6, 2) := by decide +kernel
theorem dX8_next_46 : decode cX8_next 46 = .ok (.iload 6, 2) := by decide +kernel
theorem dX8_next_48 : decode cX8_next 48 = .ok (.aload_n 0, 1) := by decide +kernel
theorem dX8_next_49 : decode cX8_next 49 = .ok (.getfield 128, 3) := by decide +kernel
theorem dX8_next_52 : decode cX8_next 52 = .ok (.if_icmp .ge 93, 3) := by decide +kernel
theorem dX8_next_55 : decode cX8_next 55 = .ok (.aload_n 0, 1) := by decide +kernel
theorem dX8_next_56 : decode cX8_next 56 = .ok (.getfield 68, 3) := by decide +kernel
theorem dX8_next_59 : decode cX8_next 59 = .ok (.iload 6, 2) := by decide +kernel
theorem dX8_next_61 : decode cX8_next 61 = .ok (.iaload, 1) := by decide +kernel
theorem dX8_next_62 : decode cX8_next 62 = .ok (.aload_n 0, 1) := by decide +kernel
theorem dX8_next_63 : decode cX8_next 63 = .ok (.getfield 68, 3) := by decide +kernel
theorem dX8_next_66 : decode cX8_next 66 = .ok (.iload 4, 2) := by decide +kernel
theorem dX8_next_68 : decode cX8_next 68 = .ok (.iaload, 1) := by decide +kernel
theorem dX8_next_69 : decode cX8_next 69 = .ok (.if_icmp .lt 27, 3) := by decide +kernel
theorem dX8_next_72 : decode cX8_next 72 = .ok (.aload_n 0, 1) := by decide +kernel
theorem dX8_next_73 : decode cX8_next 73 = .ok (.getfield 68, 3) := by decide +kernel
theorem dX8_next_76 : decode cX8_next 76 = .ok (.iload 6, 2) := by decide +kernel
theorem dX8_next_78 : decode cX8_next 78 = .ok (.iaload, 1) := by decide +kernel
theorem dX8_next_79 : decode cX8_next 79 = .ok (.aload_n 0, 1) := by decide +kernel
theorem dX8_next_80 : decode cX8_next 80 = .ok (.getfield 68, 3) := by decide +kernel
theorem dX8_next_83 : decode cX8_next 83 = .ok (.iload 4, 2) := by decide +kernel
theorem dX8_next_85 : decode cX8_next 85 = .ok (.iaload, 1) := by decide +kernel
theorem dX8_next_86 : decode cX8_next 86 = .ok (.if_icmp .ne 14, 3) := by decide +kernel
theorem dX8_next_89 : decode cX8_next 89 = .ok (.iload 6, 2) := by decide +kernel
theorem dX8_next_91 : decode cX8_next 91 = .ok (.iload 4, 2) := by decide +kernel
theorem dX8_next_93 : decode cX8_next 93 = .ok (.if_icmp .ge 7, 3) := by decide +kernel
theorem dX8_next_96 : decode cX8_next 96 = .ok (.iconst 1, 1) := by decide +kernel
theorem dX8_next_97 : decode cX8_next 97 = .ok (.goto 4, 3) := by decide +kernel
theorem dX8_next_100 : decode cX8_next 100 = .ok (.iconst 0, 1) := by decide +kernel
theorem dX8_next_101 : decode cX8_next 101 = .ok (.istore 7, 2) := by decide +kernel
theorem dX8_next_103 : decode cX8_next 103 = .ok (.iload 5, 2) := by decide +kernel
theorem dX8_next_105 : decode cX8_next 105 = .ok (.aload_n 0, 1) := by decide +kernel
theorem dX8_next_106 : decode cX8_next 106 = .ok (.getfield 65, 3) := by decide +kernel
theorem dX8_next_109 : decode cX8_next 109 = .ok (.iload 6, 2) := by decide +kernel
theorem dX8_next_111 : decode cX8_next 111 = .ok (.iaload, 1) := by decide +kernel
theorem dX8_next_112 : decode cX8_next 112 = .ok (.iload_n 1, 1) := by decide +kernel
theorem dX8_next_113 : decode cX8_next 113 = .ok (.if_icmp .ne 22, 3) := by decide +kernel
theorem dX8_next_116 : decode cX8_next 116 = .ok (.aload_n 0, 1) := by decide +kernel
theorem dX8_next_117 : decode cX8_next 117 = .ok (.getfield 71, 3) := by decide +kernel
theorem dX8_next_120 : decode cX8_next 120 = .ok (.iload 6, 2) := by decide +kernel
theorem dX8_next_122 : decode cX8_next 122 = .ok (.iaload, 1) := by decide +kernel
theorem dX8_next_123 : decode cX8_next 123 = .ok (.ifCond .ne 12, 3) := by decide +kernel
theorem dX8_next_126 : decode cX8_next 126 = .ok (.iload 7, 2) := by decide +kernel
theorem dX8_next_128 : decode cX8_next 128 = .ok (.ifCond .eq 7, 3) := by decide +kernel
theorem dX8_next_131 : decode cX8_next 131 = .ok (.iconst 1, 1) := by decide +kernel
theorem dX8_next_132 : decode cX8_next 132 = .ok (.goto 4, 3) := by decide +kernel
theorem dX8_next_135 : decode cX8_next 135 = .ok (.iconst 0, 1) := by decide +kernel
theorem dX8_next_136 : decode cX8_next 136 = .ok (.iadd, 1) := by decide +kernel
theorem dX8_next_137 : decode cX8_next 137 = .ok (.istore 5, 2) := by decide +kernel
theorem dX8_next_139 : decode cX8_next 139 = .ok (.iinc 6 1, 3) := by decide +kernel
theorem dX8_next_142 : decode cX8_next 142 = .ok (.goto (-96), 3) := by decide +kernel
theorem dX8_next_145 : decode cX8_next 145 = .ok (.aload_n 0, 1) := by decide +kernel
theorem dX8_next_146 : decode cX8_next 146 = .ok (.getfield 65, 3) := by decide +kernel
theorem dX8_next_149 : decode cX8_next 149 = .ok (.iload 4, 2) := by decide +kernel
theorem dX8_next_151 : decode cX8_next 151 = .ok (.iaload, 1) := by decide +kernel
theorem dX8_next_152 : decode cX8_next 152 = .ok (.iload_n 1, 1) := by decide +kernel
theorem dX8_next_153 : decode cX8_next 153 = .ok (.if_icmp .ne 24, 3) := by decide +kernel
theorem dX8_next_156 : decode cX8_next 156 = .ok (.aload_n 0, 1) := by decide +kernel
theorem dX8_next_157 : decode cX8_next 157 = .ok (.getfield 71, 3) := by decide +kernel
theorem dX8_next_160 : decode cX8_next 160 = .ok (.iload 4, 2) := by decide +kernel
theorem dX8_next_162 : decode cX8_next 162 = .ok (.iaload, 1) := by decide +kernel
theorem dX8_next_163 : decode cX8_next 163 = .ok (.ifCond .ne 14, 3) := by decide +kernel
theorem dX8_next_166 : decode cX8_next 166 = .ok (.iload 5, 2) := by decide +kernel
theorem dX8_next_168 : decode cX8_next 168 = .ok (.iload_n 2, 1) := by decide +kernel
theorem dX8_next_169 : decode cX8_next 169 = .ok (.if_icmp .ne 8, 3) := by decide +kernel
theorem dX8_next_172 : decode cX8_next 172 = .ok (.iload 4, 2) := by decide +kernel
theorem dX8_next_174 : decode cX8_next 174 = .ok (.goto 4, 3) := by decide +kernel
theorem dX8_next_177 : decode cX8_next 177 = .ok (.iload_n 3, 1) := by decide +kernel
theorem dX8_next_178 : decode cX8_next 178 = .ok (.istore_n 3, 1) := by decide +kernel
theorem dX8_next_179 : decode cX8_next 179 = .ok (.iinc 4 1, 3) := by decide +kernel
theorem dX8_next_182 : decode cX8_next 182 = .ok (.goto (-151), 3) := by decide +kernel
theorem dX8_next_185 : decode cX8_next 185 = .ok (.iload_n 3, 1) := by decide +kernel
theorem dX8_next_186 : decode cX8_next 186 = .ok (.ireturn, 1) := by decide +kernel
set_option maxHeartbeats 4000000 in
set_option maxRecDepth 100000 in
theorem c_X8_next (l : Launch) (E : State) (G : kG) (S T : kSt) (o : Int64) (ad : kAd) (xu xr : Int32) (hT : okN T) : Met l yX8_next (.code yX8_next cX8_next 8 (some .int) :: wsL_law) ({ frames := 4, cells := 0, slots := 0, locals := 90 } : Room) (va_Pc [.ref (ad 16 0), .int xu, .int xr] (kPre E G ad (cto G S T o ad))) (kQi E G (fun r ad1 ct1 => (cNext T xu xr = 0 → r = nxt T (cl xu) xr (T.2 0 3)) ∧ ad = ad1 ∧ ct1 = cto G S (if cNext T xu xr = 0 then (sI T 24 0 0) else sI T 24 0 (cNext T xu xr)) o ad)) 0 0 (kB E.heap.size) := by
  refine Met.ofW (cc := cX8_next) (maxL := 8) (ret := (some .int)) (by decide) rfl ?_
  intro p e s m args below meth c s₁ B hml hv
  obtain ⟨rfl, hM, hK, hW0⟩ := hv
  have hlocks := B.notSynchronized
  have hr := B.returns
  have Z : kZ p m c cX8_next 8 s _ wsL_law RX8 E G := ⟨⟨B.exec, B.bytes, hml, findClass_of_methodNamed B.named, fun w h => atoms_spec (ws := .code yX8_next cX8_next 8 (some .int) :: wsL_law) B.pre w (List.mem_cons_of_mem _ h)⟩, hM, hK⟩
  have hx := Z.1.1
  have hb := Z.1.2.1
  have X := kX.of hW0
  have hl := lv_entry ([.ref (ad 16 0), .int xu, .int xr]) (n := 8) (Nat.le_of_ble_eq_true rfl)
  rw [lg_entry_eq]
  generalize (lg_sl ([.ref (ad 16 0), .int xu, .int xr]) ++ List.replicate (8 - (lg_sl ([.ref (ad 16 0), .int xu, .int xr])).length) Slot.unset).toArray = ls at hl ⊢
  have hl : lv_has ls 8 [(0, .ref (ad 16 0)), (1, .int xu), (2, .int xr)] := hl
  have hT0 := hT
  obtain ⟨hT1, hT2, hT3, hT4, hT5, hT6, hT7⟩ := hT0
  refine lv_aload_n hx hb dX8_next_0 rfl (lv_at hl 0 rfl) ?_
  refine lv_aload_n hx hb dX8_next_1 rfl (lv_at hl 0 rfl) ?_
  refine lv_iload_n hx hb dX8_next_2 rfl (lv_at hl 1 rfl) ?_
  refine k_Ri X (k_runV (As := [.int xu]) (rest := [.ref (ad 16 0)]) Z X (c_X8_isUser l E G S T o ad xu (by omega)) (k_cwV 1 Z.1.2.2.2.2 (inU_12 _ (List.mem_of_getElem? (i := 9) rfl)) (inU_12 _ (List.mem_of_getElem? (i := 10) rfl)) (inU_12 _ (List.mem_of_getElem? (i := 11) rfl)) (inU_1 _ (List.mem_of_getElem? (i := 5) rfl)) (inU_12 _ (List.mem_of_getElem? (i := 12) rfl)) rfl rfl (by decide +kernel) ⟨Nat.le_of_ble_eq_true rfl, Nat.le_of_ble_eq_true rfl⟩) (k_recv Z X ct_16 rfl) rfl hl.1 rfl (Nat.le_of_ble_eq_true rfl) dX8_next_3 ⟨Nat.le_of_ble_eq_true rfl, Nat.le_of_ble_eq_true rfl⟩) (fun r_3 ad1 ct1 H locs hp X => ?_)
  obtain ⟨rfl, rfl, rfl⟩ := hp
  refine lv_if_eq (tgt := 17) hx hb dX8_next_6 (by decide) (fun c_6 => ?_) (fun c_6 => ?_)
  · have c_6 : inB xu (T.2 0 0) = false := bI_0 c_6
    refine lv_iconst (v := 1) hx hb dX8_next_17 (by decide) ?_
    refine k_Ri X (k_runV (As := [.int 1]) (rest := []) Z X (c_X8_fails l E G S T o ad 1) (k_cwV 1 Z.1.2.2.2.2 (inU_9 _ (List.mem_of_getElem? (i := 2) rfl)) (inU_9 _ (List.mem_of_getElem? (i := 3) rfl)) (inU_9 _ (List.mem_of_getElem? (i := 4) rfl)) (inU_1 _ (List.mem_of_getElem? (i := 5) rfl)) (inU_9 _ (List.mem_of_getElem? (i := 5) rfl)) rfl rfl (by decide +kernel) ⟨Nat.le_of_ble_eq_true rfl, Nat.le_of_ble_eq_true rfl⟩) (k_recv Z X ct_16 rfl) rfl hl.1 rfl (Nat.le_of_ble_eq_true rfl) dX8_next_18 ⟨Nat.le_of_ble_eq_true rfl, Nat.le_of_ble_eq_true rfl⟩) (fun r_18 ad1 ct1 H locs hp X => ?_)
    obtain ⟨rfl, rfl, rfl⟩ := hp
    refine lv_topi (fun x_18 e_18 => ?_)
    obtain rfl : x_18 = 1 := e_18.trans (by decide)
    refine lv_if_eq (tgt := 26) hx hb dX8_next_21 (by decide) (fun c_21 => ?_) (fun c_21 => ?_)
    · exact absurd c_21 (by decide)
    · refine lv_iconst (v := 0) hx hb dX8_next_24 (by decide) ?_
      have hk : cNext T xu xr = 1 := by rw [cNext, if_pos (by rw [c_6]; rfl)]
      exact k_iret Z X hr hlocks rfl (Nat.le_of_ble_eq_true rfl) (Nat.le_of_ble_eq_true rfl) dX8_next_25 ⟨fun h => absurd (hk.symm.trans h) (by decide), rfl, by rw [hk, if_neg (by decide)]⟩
  · have c_6 : inB xu (T.2 0 0) = true := bI_1 c_6
    obtain ⟨ju, hju, hxu⟩ := inB_of c_6 (by omega)
    subst hxu
    have hcu : cl (nI ju) = ju := nI_clamp (by omega)
    refine lv_iload_n hx hb dX8_next_9 rfl (lv_at hl 2 rfl) ?_
    refine lv_if_lt (tgt := 17) hx hb dX8_next_10 (by decide) (fun c_10 => ?_) (fun c_10 => ?_)
    · have c_10 : decide (0 ≤ xr) = false := decide_eq_false (Int32.not_le.mpr c_10)
      refine lv_iconst (v := 1) hx hb dX8_next_17 (by decide) ?_
      refine k_Ri X (k_runV (As := [.int 1]) (rest := []) Z X (c_X8_fails l E G S T o ad 1) (k_cwV 1 Z.1.2.2.2.2 (inU_9 _ (List.mem_of_getElem? (i := 2) rfl)) (inU_9 _ (List.mem_of_getElem? (i := 3) rfl)) (inU_9 _ (List.mem_of_getElem? (i := 4) rfl)) (inU_1 _ (List.mem_of_getElem? (i := 5) rfl)) (inU_9 _ (List.mem_of_getElem? (i := 5) rfl)) rfl rfl (by decide +kernel) ⟨Nat.le_of_ble_eq_true rfl, Nat.le_of_ble_eq_true rfl⟩) (k_recv Z X ct_16 rfl) rfl hl.1 rfl (Nat.le_of_ble_eq_true rfl) dX8_next_18 ⟨Nat.le_of_ble_eq_true rfl, Nat.le_of_ble_eq_true rfl⟩) (fun r_18 ad1 ct1 H locs hp X => ?_)
      obtain ⟨rfl, rfl, rfl⟩ := hp
      refine lv_topi (fun x_18 e_18 => ?_)
      obtain rfl : x_18 = 1 := e_18.trans (by decide)
      refine lv_if_eq (tgt := 26) hx hb dX8_next_21 (by decide) (fun c_21 => ?_) (fun c_21 => ?_)
      · exact absurd c_21 (by decide)
      · refine lv_iconst (v := 0) hx hb dX8_next_24 (by decide) ?_
        have hk : cNext T (nI ju) xr = 1 := by rw [cNext, if_pos (by rw [c_6, c_10]; decide)]
        exact k_iret Z X hr hlocks rfl (Nat.le_of_ble_eq_true rfl) (Nat.le_of_ble_eq_true rfl) dX8_next_25 ⟨fun h => absurd (hk.symm.trans h) (by decide), rfl, by rw [hk, if_neg (by decide)]⟩
    · have c_10 : decide (0 ≤ xr) = true := decide_eq_true (Int32.not_lt.mp c_10)
      refine lv_iconst (v := 0) hx hb dX8_next_13 (by decide) ?_
      refine lv_goto (tgt := 18) hx hb dX8_next_14 (by decide) ?_
      refine k_Ri X (k_runV (As := [.int 0]) (rest := []) Z X (c_X8_fails l E G S T o ad 0) (k_cwV 1 Z.1.2.2.2.2 (inU_9 _ (List.mem_of_getElem? (i := 2) rfl)) (inU_9 _ (List.mem_of_getElem? (i := 3) rfl)) (inU_9 _ (List.mem_of_getElem? (i := 4) rfl)) (inU_1 _ (List.mem_of_getElem? (i := 5) rfl)) (inU_9 _ (List.mem_of_getElem? (i := 5) rfl)) rfl rfl (by decide +kernel) ⟨Nat.le_of_ble_eq_true rfl, Nat.le_of_ble_eq_true rfl⟩) (k_recv Z X ct_16 rfl) rfl hl.1 rfl (Nat.le_of_ble_eq_true rfl) dX8_next_18 ⟨Nat.le_of_ble_eq_true rfl, Nat.le_of_ble_eq_true rfl⟩) (fun r_18 ad1 ct1 H locs hp X => ?_)
      obtain ⟨rfl, rfl, rfl⟩ := hp
      refine lv_topi (fun x_18 e_18 => ?_)
      obtain rfl : x_18 = 0 := e_18.trans (by decide)
      refine lv_if_eq (tgt := 26) hx hb dX8_next_21 (by decide) (fun c_21 => ?_) (fun c_21 => ?_)
      · refine lv_iconst (v := (-1)) hx hb dX8_next_26 (by decide) ?_
        refine lv_istore_n (lv' := [(3, .int (-1)), (0, .ref (ad 16 0)), (1, .int (nI ju)), (2, .int xr)]) hx hb dX8_next_27 rfl hl (by decide) rfl (fun ls hl => ?_)
        refine lv_iconst (v := 0) hx hb dX8_next_28 (by decide) ?_
        refine lv_istore (lv' := [(4, .int 0), (3, .int (-1)), (0, .ref (ad 16 0)), (1, .int (nI ju)), (2, .int xr)]) hx hb dX8_next_29 hl (by decide) rfl (fun ls hl => ?_)
        have LOOP_31 : ∀ (d : Nat) (t : Nat), t ≤ T.2 0 3 → T.2 0 3 < t + d → ∀ (H : Heap) (locs : List Loc) (ls : Array Slot), kX E G s H locs ad (cto G S (sI T 24 0 0) o ad) → lv_has ls 8 [(4, .int (nI t)), (3, .int (nxt T ju xr t)), (0, .ref (ad 16 0)), (1, .int (nI ju)), (2, .int xr)] → W p l e (headSpec (Cond.code yX8_next cX8_next 8 (some .int) :: wsL_law) ({ frames := 4, cells := 0, slots := 0, locals := 90 } : Room)).room s m ([.ref (ad 16 0), .int (nI ju), .int xr] : List Value).toArray below meth c H locs 0 0 (MQ below (kQi E G (fun r ad1 ct1 => (cNext T (nI ju) xr = 0 → r = nxt T (cl (nI ju)) xr (T.2 0 3)) ∧ ad = ad1 ∧ ct1 = cto G S (if cNext T (nI ju) xr = 0 then (sI T 24 0 0) else sI T 24 0 (cNext T (nI ju) xr)) o ad)) ([.ref (ad 16 0), .int (nI ju), .int xr] : List Value).toArray s 0 0 (kB E.heap.size)) (F0 m 31 ls []) := by
          intro d
          induction d with
          | zero => intro t h1t h2t; intros; exact absurd h2t (by omega)
          | succ d ih =>
            intro t h1t h2t H locs ls X hl
            have ihO := ih
            refine lv_iload hx hb dX8_next_31 (lv_at hl 0 rfl) ?_
            refine lv_aload_n hx hb dX8_next_33 rfl (lv_at hl 2 rfl) ?_
            refine k_get (index := 128) (j := 20) (ad := ad) (k := 16) (i := 0) Z X ct_16 inlX8 rfl (by decide) (inU_18 _ (List.mem_of_getElem? (i := 1) rfl)) (fun _ h => h) (v := .int (nI (T.2 0 3))) rfl dX8_next_34 ?_
            refine lv_icmp_ge (tgt := 185) hx hb dX8_next_37 (by decide) (fun c_37 => ?_) (fun c_37 => ?_)
            · have c_37 : (T.2 0 3) ≤ t := (nI_leI (a := (T.2 0 3)) (b := t) (by omega) (by omega)).mp c_37
              have ht3 : t = T.2 0 3 := by omega
              subst ht3
              refine lv_iload_n hx hb dX8_next_185 rfl (lv_at hl 1 rfl) ?_
              have hk : cNext T (nI ju) xr = 0 := by rw [cNext, if_neg (by rw [c_6, c_10]; decide)]
              exact k_iret Z X hr hlocks rfl (Nat.le_of_ble_eq_true rfl) (Nat.le_of_ble_eq_true rfl) dX8_next_186 ⟨fun _ => by rw [hcu], rfl, (congrArg (fun z => cto G S z o ad) (show (sI T 24 0 0) = (sI T 24 0 0) from rfl)).trans (by rw [if_pos hk])⟩
            · have c_37 : ¬ (T.2 0 3) ≤ t := fun h => c_37 ((nI_leI (a := (T.2 0 3)) (b := t) (by omega) (by omega)).mpr h)
              refine lv_iconst (v := 0) hx hb dX8_next_40 (by decide) ?_
              refine lv_istore (lv' := [(5, .int 0), (4, .int (nI t)), (3, .int (nxt T ju xr t)), (0, .ref (ad 16 0)), (1, .int (nI ju)), (2, .int xr)]) hx hb dX8_next_41 hl (by decide) rfl (fun ls hl => ?_)
              refine lv_iconst (v := 0) hx hb dX8_next_43 (by decide) ?_
              refine lv_istore (lv' := [(6, .int 0), (5, .int 0), (4, .int (nI t)), (3, .int (nxt T ju xr t)), (0, .ref (ad 16 0)), (1, .int (nI ju)), (2, .int xr)]) hx hb dX8_next_44 hl (by decide) rfl (fun ls hl => ?_)
              have LOOP_46 : ∀ (d : Nat) (kq : Nat), kq ≤ T.2 0 3 → T.2 0 3 < kq + d → ∀ (H : Heap) (locs : List Loc) (ls : Array Slot), kX E G s H locs ad (cto G S (sI T 24 0 0) o ad) → lv_has ls 8 [(6, .int (nI kq)), (5, .int (nI (rnk T ju t kq))), (4, .int (nI t)), (3, .int (nxt T ju xr t)), (0, .ref (ad 16 0)), (1, .int (nI ju)), (2, .int xr)] → W p l e (headSpec (Cond.code yX8_next cX8_next 8 (some .int) :: wsL_law) ({ frames := 4, cells := 0, slots := 0, locals := 90 } : Room)).room s m ([.ref (ad 16 0), .int (nI ju), .int xr] : List Value).toArray below meth c H locs 0 0 (MQ below (kQi E G (fun r ad1 ct1 => (cNext T (nI ju) xr = 0 → r = nxt T (cl (nI ju)) xr (T.2 0 3)) ∧ ad = ad1 ∧ ct1 = cto G S (if cNext T (nI ju) xr = 0 then (sI T 24 0 0) else sI T 24 0 (cNext T (nI ju) xr)) o ad)) ([.ref (ad 16 0), .int (nI ju), .int xr] : List Value).toArray s 0 0 (kB E.heap.size)) (F0 m 46 ls []) := by
                intro d
                induction d with
                | zero => intro kq h1k h2k; intros; exact absurd h2k (by omega)
                | succ d ih =>
                  intro kq h1k h2k H locs ls X hl
                  refine lv_iload hx hb dX8_next_46 (lv_at hl 0 rfl) ?_
                  refine lv_aload_n hx hb dX8_next_48 rfl (lv_at hl 4 rfl) ?_
                  refine k_get (index := 128) (j := 20) (ad := ad) (k := 16) (i := 0) Z X ct_16 inlX8 rfl (by decide) (inU_18 _ (List.mem_of_getElem? (i := 1) rfl)) (fun _ h => h) (v := .int (nI (T.2 0 3))) rfl dX8_next_49 ?_
                  refine lv_icmp_ge (tgt := 145) hx hb dX8_next_52 (by decide) (fun c_52 => ?_) (fun c_52 => ?_)
                  · have c_52 : (T.2 0 3) ≤ kq := (nI_leI (a := (T.2 0 3)) (b := kq) (by omega) (by omega)).mp c_52
                    have M_178 : ∀ (H : Heap) (locs : List Loc), kX E G s H locs ad (cto G S (sI T 24 0 0) o ad) → W p l e (headSpec (Cond.code yX8_next cX8_next 8 (some .int) :: wsL_law) ({ frames := 4, cells := 0, slots := 0, locals := 90 } : Room)).room s m ([.ref (ad 16 0), .int (nI ju), .int xr] : List Value).toArray below meth c H locs 0 0 (MQ below (kQi E G (fun r ad1 ct1 => (cNext T (nI ju) xr = 0 → r = nxt T (cl (nI ju)) xr (T.2 0 3)) ∧ ad = ad1 ∧ ct1 = cto G S (if cNext T (nI ju) xr = 0 then (sI T 24 0 0) else sI T 24 0 (cNext T (nI ju) xr)) o ad)) ([.ref (ad 16 0), .int (nI ju), .int xr] : List Value).toArray s 0 0 (kB E.heap.size)) (F0 m 178 ls [.int (nxt T ju xr (t + 1))]) := by
                      intro H locs X
                      refine lv_istore_n (lv' := [(3, .int (nxt T ju xr (t + 1))), (6, .int (nI kq)), (5, .int (nI (rnk T ju t kq))), (4, .int (nI t)), (0, .ref (ad 16 0)), (1, .int (nI ju)), (2, .int xr)]) hx hb dX8_next_178 rfl hl (by decide) rfl (fun ls hl => ?_)
                      refine lv_iinc (v := (nI (t + 1))) (lv' := [(4, .int (nI (t + 1))), (3, .int (nxt T ju xr (t + 1))), (6, .int (nI kq)), (5, .int (nI (rnk T ju t kq))), (0, .ref (ad 16 0)), (1, .int (nI ju)), (2, .int xr)]) hx hb dX8_next_179 hl (k := 3) rfl (nI_1 _) (by decide) rfl (fun ls hl => ?_)
                      refine lv_goto (tgt := 31) hx hb dX8_next_182 (by decide) ?_
                      exact ihO (t + 1) (by omega) (by omega) _ _ _ X (lv_sub hl [0, 1, 4, 5, 6] rfl)
                    have hk3 : kq = T.2 0 3 := by omega
                    subst hk3
                    refine lv_aload_n hx hb dX8_next_145 rfl (lv_at hl 4 rfl) ?_
                    refine k_get (index := 65) (j := 23) (ad := ad) (k := 16) (i := 0) Z X ct_16 inlX8 rfl (by decide) (inU_7 _ (List.mem_of_getElem? (i := 1) rfl)) (fun _ h => h) (v := .ref (ad 17 18)) rfl dX8_next_146 ?_
                    refine lv_iload hx hb dX8_next_149 (lv_at hl 2 rfl) ?_
                    refine k_ild (ad := ad) (k := 17) (i := 18) Z X ct_17_18 (vp_in_nI (by first | assumption | omega) (by decide)) dX8_next_151 ?_
                    refine lv_topi (fun x_151 e_151 => ?_)
                    obtain rfl : x_151 = nI (T.2 5 t) := e_151.trans (by first | (simp only [nI_clamp (show t < 2 ^ 31 by omega)]; done) | (simp only [nI_clamp (show t < 2 ^ 31 by omega)]; rfl) | (simp only [nI_clamp (show t < 2 ^ 31 by omega)]; simp [sI, sN]; done))
                    refine lv_iload_n hx hb dX8_next_152 rfl (lv_at hl 5 rfl) ?_
                    refine lv_icmp_ne (tgt := 177) hx hb dX8_next_153 (by decide) (fun c_153 => ?_) (fun c_153 => ?_)
                    · have c_153 : ¬ (T.2 5 t) = ju := fun h => c_153 ((nI_eq (a := (T.2 5 t)) (b := ju) (by have := (hT7 t (by omega)).2; omega) (by omega)).mpr h)
                      refine lv_iload_n hx hb dX8_next_177 rfl (lv_at hl 3 rfl) ?_
                      exact W.eq (congrArg (fun z => F0 m 178 ls (.int z :: [])) (by simp [nxt, opn, c_153])) (M_178 _ _ X)
                    · have c_153 : (T.2 5 t) = ju := (nI_eq (a := (T.2 5 t)) (b := ju) (by have := (hT7 t (by omega)).2; omega) (by omega)).mp c_153
                      refine lv_aload_n hx hb dX8_next_156 rfl (lv_at hl 4 rfl) ?_
                      refine k_get (index := 71) (j := 25) (ad := ad) (k := 16) (i := 0) Z X ct_16 inlX8 rfl (by decide) (inU_7 _ (List.mem_of_getElem? (i := 3) rfl)) (fun _ h => h) (v := .ref (ad 17 20)) rfl dX8_next_157 ?_
                      refine lv_iload hx hb dX8_next_160 (lv_at hl 2 rfl) ?_
                      refine k_ild (ad := ad) (k := 17) (i := 20) Z X ct_17_20 (vp_in_nI (by first | assumption | omega) (by decide)) dX8_next_162 ?_
                      refine lv_topi (fun x_162 e_162 => ?_)
                      obtain rfl : x_162 = T.1 14 t := e_162.trans (by first | (simp only [nI_clamp (show t < 2 ^ 31 by omega)]; done) | (simp only [nI_clamp (show t < 2 ^ 31 by omega)]; rfl) | (simp only [nI_clamp (show t < 2 ^ 31 by omega)]; simp [sI, sN]; done))
                      refine lv_if_ne (tgt := 177) hx hb dX8_next_163 (by decide) (fun c_163 => ?_) (fun c_163 => ?_)
                      · refine lv_iload_n hx hb dX8_next_177 rfl (lv_at hl 3 rfl) ?_
                        exact W.eq (congrArg (fun z => F0 m 178 ls (.int z :: [])) (by simp [nxt, opn, c_153, c_163])) (M_178 _ _ X)
                      · refine lv_iload hx hb dX8_next_166 (lv_at hl 1 rfl) ?_
                        refine lv_iload_n hx hb dX8_next_168 rfl (lv_at hl 6 rfl) ?_
                        refine lv_icmp_ne (tgt := 177) hx hb dX8_next_169 (by decide) (fun c_169 => ?_) (fun c_169 => ?_)
                        · refine lv_iload_n hx hb dX8_next_177 rfl (lv_at hl 3 rfl) ?_
                          exact W.eq (congrArg (fun z => F0 m 178 ls (.int z :: [])) (by simp [nxt, opn, c_153, c_163, c_169])) (M_178 _ _ X)
                        · refine lv_iload hx hb dX8_next_172 (lv_at hl 2 rfl) ?_
                          refine lv_goto (tgt := 178) hx hb dX8_next_174 (by decide) ?_
                          exact W.eq (congrArg (fun z => F0 m 178 ls (.int z :: [])) (by simp [nxt, opn, c_153, c_163, c_169])) (M_178 _ _ X)
                  · have c_52 : ¬ (T.2 0 3) ≤ kq := fun h => c_52 ((nI_leI (a := (T.2 0 3)) (b := kq) (by omega) (by omega)).mpr h)
                    have M_101 : ∀ (H : Heap) (locs : List Loc), kX E G s H locs ad (cto G S (sI T 24 0 0) o ad) → W p l e (headSpec (Cond.code yX8_next cX8_next 8 (some .int) :: wsL_law) ({ frames := 4, cells := 0, slots := 0, locals := 90 } : Room)).room s m ([.ref (ad 16 0), .int (nI ju), .int xr] : List Value).toArray below meth c H locs 0 0 (MQ below (kQi E G (fun r ad1 ct1 => (cNext T (nI ju) xr = 0 → r = nxt T (cl (nI ju)) xr (T.2 0 3)) ∧ ad = ad1 ∧ ct1 = cto G S (if cNext T (nI ju) xr = 0 then (sI T 24 0 0) else sI T 24 0 (cNext T (nI ju) xr)) o ad)) ([.ref (ad 16 0), .int (nI ju), .int xr] : List Value).toArray s 0 0 (kB E.heap.size)) (F0 m 101 ls [.int (bI (ahead T t kq))]) := by
                      intro H locs X
                      refine lv_istore (lv' := [(7, .int (bI (ahead T t kq))), (6, .int (nI kq)), (5, .int (nI (rnk T ju t kq))), (4, .int (nI t)), (3, .int (nxt T ju xr t)), (0, .ref (ad 16 0)), (1, .int (nI ju)), (2, .int xr)]) hx hb dX8_next_101 hl (by decide) rfl (fun ls hl => ?_)
                      refine lv_iload hx hb dX8_next_103 (lv_at hl 2 rfl) ?_
                      have M_136 : ∀ (H : Heap) (locs : List Loc), kX E G s H locs ad (cto G S (sI T 24 0 0) o ad) → W p l e (headSpec (Cond.code yX8_next cX8_next 8 (some .int) :: wsL_law) ({ frames := 4, cells := 0, slots := 0, locals := 90 } : Room)).room s m ([.ref (ad 16 0), .int (nI ju), .int xr] : List Value).toArray below meth c H locs 0 0 (MQ below (kQi E G (fun r ad1 ct1 => (cNext T (nI ju) xr = 0 → r = nxt T (cl (nI ju)) xr (T.2 0 3)) ∧ ad = ad1 ∧ ct1 = cto G S (if cNext T (nI ju) xr = 0 then (sI T 24 0 0) else sI T 24 0 (cNext T (nI ju) xr)) o ad)) ([.ref (ad 16 0), .int (nI ju), .int xr] : List Value).toArray s 0 0 (kB E.heap.size)) (F0 m 136 ls [.int (bI (opn T ju kq && ahead T t kq)), .int (nI (rnk T ju t kq))]) := by
                        intro H locs X
                        refine lv_iadd hx hb dX8_next_136 ?_
                        refine lv_topi (fun x_136 e_136 => ?_)
                        obtain rfl : x_136 = nI (rnk T ju t (kq + 1)) := e_136.trans (by cases h : (opn T ju kq && ahead T t kq) <;> simp only [rnk, h, bI] <;> simp [nI_1])
                        refine lv_istore (lv' := [(5, .int (nI (rnk T ju t (kq + 1)))), (7, .int (bI (ahead T t kq))), (6, .int (nI kq)), (4, .int (nI t)), (3, .int (nxt T ju xr t)), (0, .ref (ad 16 0)), (1, .int (nI ju)), (2, .int xr)]) hx hb dX8_next_137 hl (by decide) rfl (fun ls hl => ?_)
                        refine lv_iinc (v := (nI (kq + 1))) (lv' := [(6, .int (nI (kq + 1))), (5, .int (nI (rnk T ju t (kq + 1)))), (7, .int (bI (ahead T t kq))), (4, .int (nI t)), (3, .int (nxt T ju xr t)), (0, .ref (ad 16 0)), (1, .int (nI ju)), (2, .int xr)]) hx hb dX8_next_139 hl (k := 2) rfl (nI_1 _) (by decide) rfl (fun ls hl => ?_)
                        refine lv_goto (tgt := 46) hx hb dX8_next_142 (by decide) ?_
                        exact ih (kq + 1) (by omega) (by omega) _ _ _ X (lv_sub hl [0, 1, 3, 4, 5, 6, 7] rfl)
                      refine lv_aload_n hx hb dX8_next_105 rfl (lv_at hl 5 rfl) ?_
                      refine k_get (index := 65) (j := 23) (ad := ad) (k := 16) (i := 0) Z X ct_16 inlX8 rfl (by decide) (inU_7 _ (List.mem_of_getElem? (i := 1) rfl)) (fun _ h => h) (v := .ref (ad 17 18)) rfl dX8_next_106 ?_
                      refine lv_iload hx hb dX8_next_109 (lv_at hl 1 rfl) ?_
                      refine k_ild (ad := ad) (k := 17) (i := 18) Z X ct_17_18 (vp_in_nI (by first | assumption | omega) (by decide)) dX8_next_111 ?_
                      refine lv_topi (fun x_111 e_111 => ?_)
                      obtain rfl : x_111 = nI (T.2 5 kq) := e_111.trans (by first | (simp only [nI_clamp (show kq < 2 ^ 31 by omega)]; done) | (simp only [nI_clamp (show kq < 2 ^ 31 by omega)]; rfl) | (simp only [nI_clamp (show kq < 2 ^ 31 by omega)]; simp [sI, sN]; done))
                      refine lv_iload_n hx hb dX8_next_112 rfl (lv_at hl 6 rfl) ?_
                      refine lv_icmp_ne (tgt := 135) hx hb dX8_next_113 (by decide) (fun c_113 => ?_) (fun c_113 => ?_)
                      · have c_113 : ¬ (T.2 5 kq) = ju := fun h => c_113 ((nI_eq (a := (T.2 5 kq)) (b := ju) (by have := (hT7 kq (by omega)).2; omega) (by omega)).mpr h)
                        refine lv_iconst (v := 0) hx hb dX8_next_135 (by decide) ?_
                        exact W.eq (congrArg (fun z => F0 m 136 ls (.int z :: [.int (nI (rnk T ju t kq))])) (bI_f (by simp [opn, c_113]))) (M_136 _ _ X)
                      · have c_113 : (T.2 5 kq) = ju := (nI_eq (a := (T.2 5 kq)) (b := ju) (by have := (hT7 kq (by omega)).2; omega) (by omega)).mp c_113
                        refine lv_aload_n hx hb dX8_next_116 rfl (lv_at hl 5 rfl) ?_
                        refine k_get (index := 71) (j := 25) (ad := ad) (k := 16) (i := 0) Z X ct_16 inlX8 rfl (by decide) (inU_7 _ (List.mem_of_getElem? (i := 3) rfl)) (fun _ h => h) (v := .ref (ad 17 20)) rfl dX8_next_117 ?_
                        refine lv_iload hx hb dX8_next_120 (lv_at hl 1 rfl) ?_
                        refine k_ild (ad := ad) (k := 17) (i := 20) Z X ct_17_20 (vp_in_nI (by first | assumption | omega) (by decide)) dX8_next_122 ?_
                        refine lv_topi (fun x_122 e_122 => ?_)
                        obtain rfl : x_122 = T.1 14 kq := e_122.trans (by first | (simp only [nI_clamp (show kq < 2 ^ 31 by omega)]; done) | (simp only [nI_clamp (show kq < 2 ^ 31 by omega)]; rfl) | (simp only [nI_clamp (show kq < 2 ^ 31 by omega)]; simp [sI, sN]; done))
                        refine lv_if_ne (tgt := 135) hx hb dX8_next_123 (by decide) (fun c_123 => ?_) (fun c_123 => ?_)
                        · refine lv_iconst (v := 0) hx hb dX8_next_135 (by decide) ?_
                          exact W.eq (congrArg (fun z => F0 m 136 ls (.int z :: [.int (nI (rnk T ju t kq))])) (bI_f (by simp [opn, c_113, c_123]))) (M_136 _ _ X)
                        · refine lv_iload hx hb dX8_next_126 (lv_at hl 0 rfl) ?_
                          refine lv_if_eq (tgt := 135) hx hb dX8_next_128 (by decide) (fun c_128 => ?_) (fun c_128 => ?_)
                          · have c_128 : (ahead T t kq) = false := bI_0 c_128
                            refine lv_iconst (v := 0) hx hb dX8_next_135 (by decide) ?_
                            exact W.eq (congrArg (fun z => F0 m 136 ls (.int z :: [.int (nI (rnk T ju t kq))])) (bI_f (by simp [opn, c_113, c_123, c_128]))) (M_136 _ _ X)
                          · have c_128 : (ahead T t kq) = true := bI_1 c_128
                            refine lv_iconst (v := 1) hx hb dX8_next_131 (by decide) ?_
                            refine lv_goto (tgt := 136) hx hb dX8_next_132 (by decide) ?_
                            exact W.eq (congrArg (fun z => F0 m 136 ls (.int z :: [.int (nI (rnk T ju t kq))])) (bI_t (by simp [opn, c_113, c_123, c_128]))) (M_136 _ _ X)
                    refine lv_aload_n hx hb dX8_next_55 rfl (lv_at hl 4 rfl) ?_
                    refine k_get (index := 68) (j := 24) (ad := ad) (k := 16) (i := 0) Z X ct_16 inlX8 rfl (by decide) (inU_7 _ (List.mem_of_getElem? (i := 2) rfl)) (fun _ h => h) (v := .ref (ad 17 19)) rfl dX8_next_56 ?_
                    refine lv_iload hx hb dX8_next_59 (lv_at hl 0 rfl) ?_
                    refine k_ild (ad := ad) (k := 17) (i := 19) Z X ct_17_19 (vp_in_nI (by first | assumption | omega) (by decide)) dX8_next_61 ?_
                    refine lv_topi (fun x_61 e_61 => ?_)
                    obtain rfl : x_61 = T.1 13 kq := e_61.trans (by first | (simp only [nI_clamp (show kq < 2 ^ 31 by omega)]; done) | (simp only [nI_clamp (show kq < 2 ^ 31 by omega)]; rfl) | (simp only [nI_clamp (show kq < 2 ^ 31 by omega)]; simp [sI, sN]; done))
                    refine lv_aload_n hx hb dX8_next_62 rfl (lv_at hl 4 rfl) ?_
                    refine k_get (index := 68) (j := 24) (ad := ad) (k := 16) (i := 0) Z X ct_16 inlX8 rfl (by decide) (inU_7 _ (List.mem_of_getElem? (i := 2) rfl)) (fun _ h => h) (v := .ref (ad 17 19)) rfl dX8_next_63 ?_
                    refine lv_iload hx hb dX8_next_66 (lv_at hl 2 rfl) ?_
                    refine k_ild (ad := ad) (k := 17) (i := 19) Z X ct_17_19 (vp_in_nI (by first | assumption | omega) (by decide)) dX8_next_68 ?_
                    refine lv_topi (fun x_68 e_68 => ?_)
                    obtain rfl : x_68 = T.1 13 t := e_68.trans (by first | (simp only [nI_clamp (show t < 2 ^ 31 by omega)]; done) | (simp only [nI_clamp (show t < 2 ^ 31 by omega)]; rfl) | (simp only [nI_clamp (show t < 2 ^ 31 by omega)]; simp [sI, sN]; done))
                    refine lv_icmp_lt (tgt := 96) hx hb dX8_next_69 (by decide) (fun c_69 => ?_) (fun c_69 => ?_)
                    · refine lv_iconst (v := 1) hx hb dX8_next_96 (by decide) ?_
                      refine lv_goto (tgt := 101) hx hb dX8_next_97 (by decide) ?_
                      exact W.eq (congrArg (fun z => F0 m 101 ls (.int z :: [])) (bI_t (by simp [ahead, c_69]))) (M_101 _ _ X)
                    · refine lv_aload_n hx hb dX8_next_72 rfl (lv_at hl 4 rfl) ?_
                      refine k_get (index := 68) (j := 24) (ad := ad) (k := 16) (i := 0) Z X ct_16 inlX8 rfl (by decide) (inU_7 _ (List.mem_of_getElem? (i := 2) rfl)) (fun _ h => h) (v := .ref (ad 17 19)) rfl dX8_next_73 ?_
                      refine lv_iload hx hb dX8_next_76 (lv_at hl 0 rfl) ?_
                      refine k_ild (ad := ad) (k := 17) (i := 19) Z X ct_17_19 (vp_in_nI (by first | assumption | omega) (by decide)) dX8_next_78 ?_
                      refine lv_topi (fun x_78 e_78 => ?_)
                      obtain rfl : x_78 = T.1 13 kq := e_78.trans (by first | (simp only [nI_clamp (show kq < 2 ^ 31 by omega)]; done) | (simp only [nI_clamp (show kq < 2 ^ 31 by omega)]; rfl) | (simp only [nI_clamp (show kq < 2 ^ 31 by omega)]; simp [sI, sN]; done))
                      refine lv_aload_n hx hb dX8_next_79 rfl (lv_at hl 4 rfl) ?_
                      refine k_get (index := 68) (j := 24) (ad := ad) (k := 16) (i := 0) Z X ct_16 inlX8 rfl (by decide) (inU_7 _ (List.mem_of_getElem? (i := 2) rfl)) (fun _ h => h) (v := .ref (ad 17 19)) rfl dX8_next_80 ?_
                      refine lv_iload hx hb dX8_next_83 (lv_at hl 2 rfl) ?_
                      refine k_ild (ad := ad) (k := 17) (i := 19) Z X ct_17_19 (vp_in_nI (by first | assumption | omega) (by decide)) dX8_next_85 ?_
                      refine lv_topi (fun x_85 e_85 => ?_)
                      obtain rfl : x_85 = T.1 13 t := e_85.trans (by first | (simp only [nI_clamp (show t < 2 ^ 31 by omega)]; done) | (simp only [nI_clamp (show t < 2 ^ 31 by omega)]; rfl) | (simp only [nI_clamp (show t < 2 ^ 31 by omega)]; simp [sI, sN]; done))
                      refine lv_icmp_ne (tgt := 100) hx hb dX8_next_86 (by decide) (fun c_86 => ?_) (fun c_86 => ?_)
                      · refine lv_iconst (v := 0) hx hb dX8_next_100 (by decide) ?_
                        exact W.eq (congrArg (fun z => F0 m 101 ls (.int z :: [])) (bI_f (by simp [ahead, c_69, c_86]))) (M_101 _ _ X)
                      · refine lv_iload hx hb dX8_next_89 (lv_at hl 0 rfl) ?_
                        refine lv_iload hx hb dX8_next_91 (lv_at hl 2 rfl) ?_
                        refine lv_icmp_ge (tgt := 100) hx hb dX8_next_93 (by decide) (fun c_93 => ?_) (fun c_93 => ?_)
                        · have c_93 : t ≤ kq := (nI_leI (a := t) (b := kq) (by omega) (by omega)).mp c_93
                          have c_93 : ¬ kq < t := by omega
                          refine lv_iconst (v := 0) hx hb dX8_next_100 (by decide) ?_
                          exact W.eq (congrArg (fun z => F0 m 101 ls (.int z :: [])) (bI_f (by simp [ahead, c_69, c_86, c_93]))) (M_101 _ _ X)
                        · have c_93 : ¬ t ≤ kq := fun h => c_93 ((nI_leI (a := t) (b := kq) (by omega) (by omega)).mpr h)
                          have c_93 : kq < t := by omega
                          refine lv_iconst (v := 1) hx hb dX8_next_96 (by decide) ?_
                          refine lv_goto (tgt := 101) hx hb dX8_next_97 (by decide) ?_
                          exact W.eq (congrArg (fun z => F0 m 101 ls (.int z :: [])) (bI_t (by simp [ahead, c_69, c_86, c_93]))) (M_101 _ _ X)
              exact LOOP_46 (T.2 0 3 + 1) 0 (by omega) (by omega) _ _ _ X (lv_sub hl [0, 1, 2, 3, 4, 5, 6] rfl)
        exact LOOP_31 (T.2 0 3 + 1) 0 (by omega) (by omega) _ _ _ X (lv_sub hl [0, 1, 2, 3, 4] rfl)
      · exact absurd c_21 (by decide)
/-- signs written behind what is written -/
def wr (T : kSt) : List Nat → kSt
  | [] => T
  | c :: l => wr (sN (sI T 23 (T.2 0 5) (nI c)) 0 5 (T.2 0 5 + 1)) l
theorem wr_app (l l' : List Nat) : ∀ T, wr T (l ++ l') = wr (wr T l) l' := by
  induction l with
  | nil => intro T; rfl
  | cons c l ih => intro T; exact ih _
theorem wr_r (l : List Nat) : ∀ T, (wr T l).2 0 5 = T.2 0 5 + l.length ∧ (∀ f j, ¬ (f = 0 ∧ j = 5) → (wr T l).2 f j = T.2 f j) ∧ (∀ f j, f ≠ 23 → (wr T l).1 f j = T.1 f j) ∧ (∀ j, j < T.2 0 5 → (wr T l).1 23 j = T.1 23 j) ∧ ∀ i, i < l.length → (wr T l).1 23 (T.2 0 5 + i) = nI (l.getD i 0) := by
  induction l with
  | nil => intro T; exact ⟨rfl, fun _ _ _ => rfl, fun _ _ _ => rfl, fun _ _ => rfl, fun i h => absurd h (Nat.not_lt_zero i)⟩
  | cons c l ih =>
    intro T
    obtain ⟨h1, h2, h3, h4, h5⟩ := ih (sN (sI T 23 (T.2 0 5) (nI c)) 0 5 (T.2 0 5 + 1))
    have e0 : (sN (sI T 23 (T.2 0 5) (nI c)) 0 5 (T.2 0 5 + 1)).2 0 5 = T.2 0 5 + 1 := sN_s
    rw [e0] at h1 h4 h5
    refine ⟨?_, fun f j hf => ?_, fun f j hf => ?_, fun j hj => ?_, fun i hi => ?_⟩
    · show (wr _ l).2 0 5 = _
      rw [h1, List.length_cons]; omega
    · show (wr _ l).2 f j = _
      rw [h2 f j hf]
      simp only [sN, sI]
      rw [if_neg hf]
    · show (wr _ l).1 f j = _
      rw [h3 f j hf]
      exact sI_f hf
    · show (wr _ l).1 23 j = _
      rw [h4 j (by omega)]
      exact sI_n (by omega)
    · show (wr _ l).1 23 _ = _
      cases i with
      | zero =>
        show (wr _ l).1 23 (T.2 0 5) = _
        rw [h4 _ (Nat.lt_succ_self _)]
        exact sI_s
      | succ i =>
        have h6 := h5 i (by simp only [List.length_cons] at hi; omega)
        rw [show T.2 0 5 + (i + 1) = T.2 0 5 + 1 + i by omega, h6]
        simp
/-- the digits from place k down -/
def pd (n : Nat) : Nat → List Nat
  | 0 => [48 + n % 10]
  | k + 1 => (48 + n / 10 ^ (k + 1) % 10) :: pd n k
theorem pd_len (n : Nat) : ∀ k, (pd n k).length = k + 1
  | 0 => rfl
  | k + 1 => by rw [pd, List.length_cons, pd_len n k]
theorem pd_app (n : Nat) : ∀ k, pd n (k + 1) = pd (n / 10) k ++ [48 + n % 10]
  | 0 => by simp [pd]
  | k + 1 => by
    have ih := pd_app n k
    rw [pd, ih]
    simp only [pd, List.cons_append]
    rw [Nat.div_div_eq_div_mul, show (10 : Nat) ^ (k + 1 + 1) = 10 * 10 ^ (k + 1) from by rw [Nat.pow_succ, Nat.mul_comm]]
theorem dgs_pd : ∀ (f k n : Nat), k < f → n < 10 ^ (k + 1) → (k = 0 ∨ 10 ^ k ≤ n) → dgs f n = pd n k
  | 0, _, _, h, _, _ => absurd h (Nat.not_lt_zero _)
  | f + 1, 0, n, _, h, _ => by
    have : n < 10 := by simpa using h
    simp only [dgs, pd]
    rw [if_pos this, Nat.mod_eq_of_lt this]
  | f + 1, k + 1, n, hf, h, h2 => by
    have h3 : 10 ^ (k + 1) ≤ n := h2.resolve_left (by omega)
    have h4 : 10 ≤ 10 ^ (k + 1) := by rw [Nat.pow_succ]; have := Nat.pow_pos (n := k) (show 0 < 10 by decide); omega
    have e1 : (10 : Nat) ^ (k + 1 + 1) = 10 ^ (k + 1) * 10 := Nat.pow_succ ..
    have e2 : (10 : Nat) ^ (k + 1) = 10 ^ k * 10 := Nat.pow_succ ..
    simp only [dgs]
    rw [if_neg (by omega), pd_app, dgs_pd f k (n / 10) (by omega) (by omega) (Or.inr (by omega))]
theorem dgs_len : ∀ (f n : Nat), (dgs f n).length ≤ f
  | 0, _ => Nat.le_refl _
  | f + 1, n => by
    simp only [dgs]
    split
    · simp
    · have := dgs_len f (n / 10)
      simp; omega
theorem dX8_puts_0 : decode cX8_puts 0 = .ok (.aload_n 0, 1) := by decide +kernel
theorem dX8_puts_1 : decode cX8_puts 1 = .ok (.getfield 74, 3) := by decide +kernel
theorem dX8_puts_4 : decode cX8_puts 4 = .ok (.aload_n 0, 1) := by decide +kernel
theorem dX8_puts_5 : decode cX8_puts 5 = .ok (.getfield 141, 3) := by decide +kernel
theorem dX8_puts_8 : decode cX8_puts 8 = .ok (.iload_n 1, 1) := by decide +kernel
theorem dX8_puts_9 : decode cX8_puts 9 = .ok (.iastore, 1) := by decide +kernel
theorem dX8_puts_10 : decode cX8_puts 10 = .ok (.aload_n 0, 1) := by decide +kernel
theorem dX8_puts_11 : decode cX8_puts 11 = .ok (.dup, 1) := by decide +kernel
theorem dX8_puts_12 : decode cX8_puts 12 = .ok (.getfield 141, 3) := by decide +kernel
theorem dX8_puts_15 : decode cX8_puts 15 = .ok (.iconst 1, 1) := by decide +kernel
theorem dX8_puts_16 : decode cX8_puts 16 = .ok (.iadd, 1) := by decide +kernel
theorem dX8_puts_17 : decode cX8_puts 17 = .ok (.putfield 141, 3) := by decide +kernel
theorem dX8_puts_20 : decode cX8_puts 20 = .ok (.return_, 1) := by decide +kernel
set_option maxHeartbeats 4000000 in
set_option maxRecDepth 100000 in
theorem c_X8_puts (l : Launch) (E : State) (G : kG) (S T : kSt) (o : Int64) (ad : kAd) (q : Nat) (hw : T.2 0 5 < 40) : Met l yX8_puts (.code yX8_puts cX8_puts 2 none :: wsL_law) ({ frames := 1, cells := 0, slots := 0, locals := 8 } : Room) (va_Pc [.ref (ad 16 0), .int (nI q)] (kPre E G ad (cto G S T o ad))) (kQv E G (fun ad1 ct1 => ad = ad1 ∧ ct1 = cto G S (wr T [q]) o ad)) 0 0 (kB E.heap.size) := by
  refine Met.ofW (cc := cX8_puts) (maxL := 2) (ret := none) (by decide) rfl ?_
  intro p e s m args below meth c s₁ B hml hv
  obtain ⟨rfl, hM, hK, hW0⟩ := hv
  have hlocks := B.notSynchronized
  have hr := B.returns
  have Z : kZ p m c cX8_puts 2 s _ wsL_law RX8 E G := ⟨⟨B.exec, B.bytes, hml, findClass_of_methodNamed B.named, fun w h => atoms_spec (ws := .code yX8_puts cX8_puts 2 none :: wsL_law) B.pre w (List.mem_cons_of_mem _ h)⟩, hM, hK⟩
  have hx := Z.1.1
  have hb := Z.1.2.1
  have X := kX.of hW0
  have hl := lv_entry ([.ref (ad 16 0), .int (nI q)]) (n := 2) (Nat.le_of_ble_eq_true rfl)
  rw [lg_entry_eq]
  generalize (lg_sl ([.ref (ad 16 0), .int (nI q)]) ++ List.replicate (2 - (lg_sl ([.ref (ad 16 0), .int (nI q)])).length) Slot.unset).toArray = ls at hl ⊢
  have hl : lv_has ls 2 [(0, .ref (ad 16 0)), (1, .int (nI q))] := hl
  refine lv_aload_n hx hb dX8_puts_0 rfl (lv_at hl 0 rfl) ?_
  refine k_get (index := 74) (j := 26) (ad := ad) (k := 16) (i := 0) Z X ct_16 inlX8 rfl (by decide) (inU_7 _ (List.mem_of_getElem? (i := 4) rfl)) (fun _ h => h) (v := .ref (ad 17 21)) rfl dX8_puts_1 ?_
  refine lv_aload_n hx hb dX8_puts_4 rfl (lv_at hl 0 rfl) ?_
  refine k_get (index := 141) (j := 27) (ad := ad) (k := 16) (i := 0) Z X ct_16 inlX8 rfl (by decide) (inU_37 _ (List.mem_of_getElem? (i := 19) rfl)) (fun _ h => h) (v := .int (nI (T.2 0 5))) rfl dX8_puts_5 ?_
  refine lv_iload_n hx hb dX8_puts_8 rfl (lv_at hl 1 rfl) ?_
  refine k_ist (ad := ad) (k := 17) (i := 21) Z X ct_17_21 (vp_in_nI (by first | assumption | omega) (by decide)) dX8_puts_9 (fun H locs X => ?_)
  have X : kX E G s H locs ad (cto G S (sI T 23 (T.2 0 5) (nI q)) o ad) := X.eq (st_17_21 _ _ (by omega))
  refine lv_aload_n hx hb dX8_puts_10 rfl (lv_at hl 0 rfl) ?_
  refine lv_dup hx hb dX8_puts_11 rfl ?_
  refine k_get (index := 141) (j := 27) (ad := ad) (k := 16) (i := 0) Z X ct_16 inlX8 rfl (by decide) (inU_37 _ (List.mem_of_getElem? (i := 19) rfl)) (fun _ h => h) (v := .int (nI (T.2 0 5))) rfl dX8_puts_12 ?_
  refine lv_iconst (v := 1) hx hb dX8_puts_15 (by decide) ?_
  refine lv_iadd hx hb dX8_puts_16 ?_
  refine lv_topi (fun x_16 e_16 => ?_)
  obtain rfl : x_16 = nI (T.2 0 5 + 1) := e_16.trans (nI_1 _)
  refine k_put (index := 141) (j := 27) (k := 16) (i := 0) Z X ct_16 inlX8 tyX8_ok nmX8 rfl (by decide) (inU_37 _ (List.mem_of_getElem? (i := 19) rfl)) (fun _ h => h) rfl (Nat.le_of_ble_eq_true rfl) rfl rfl dX8_puts_17 (fun H locs X => ?_)
  have X : kX E G s H locs ad (cto G S (sN (sI T 23 (T.2 0 5) (nI q)) 0 5 (T.2 0 5 + 1)) o ad) := X.eq (st_written _)
  exact k_vret Z X hr hlocks (Nat.le_of_ble_eq_true rfl) (Nat.le_of_ble_eq_true rfl) dX8_puts_20 ⟨rfl, rfl⟩
theorem dX8_putsNumber_0 : decode cX8_putsNumber 0 = .ok (.iconst 1, 1) := by decide +kernel
theorem dX8_putsNumber_1 : decode cX8_putsNumber 1 = .ok (.istore_n 2, 1) := by decide +kernel
theorem dX8_putsNumber_2 : decode cX8_putsNumber 2 = .ok (.iload_n 1, 1) := by decide +kernel
theorem dX8_putsNumber_3 : decode cX8_putsNumber 3 = .ok (.iload_n 2, 1) := by decide +kernel
theorem dX8_putsNumber_4 : decode cX8_putsNumber 4 = .ok (.idiv, 1) := by decide +kernel
theorem dX8_putsNumber_5 : decode cX8_putsNumber 5 = .ok (.bipush 9, 2) := by decide +kernel
theorem dX8_putsNumber_7 : decode cX8_putsNumber 7 = .ok (.if_icmp .le 11, 3) := by decide +kernel
theorem dX8_putsNumber_10 : decode cX8_putsNumber 10 = .ok (.iload_n 2, 1) := by decide +kernel
theorem dX8_putsNumber_11 : decode cX8_putsNumber 11 = .ok (.bipush 10, 2) := by decide +kernel
theorem dX8_putsNumber_13 : decode cX8_putsNumber 13 = .ok (.imul, 1) := by decide +kernel
theorem dX8_putsNumber_14 : decode cX8_putsNumber 14 = .ok (.istore_n 2, 1) := by decide +kernel
theorem dX8_putsNumber_15 : decode cX8_putsNumber 15 = .ok (.goto (-13), 3) := by decide +kernel
theorem dX8_putsNumber_18 : decode cX8_putsNumber 18 = .ok (.iload_n 2, 1) := by decide +kernel
theorem dX8_putsNumber_19 : decode cX8_putsNumber 19 = .ok (.istore_n 3, 1) := by decide +kernel
theorem dX8_putsNumber_20 : decode cX8_putsNumber 20 = .ok (.iload_n 3, 1) := by decide +kernel
theorem dX8_putsNumber_21 : decode cX8_putsNumber 21 = .ok (.ifCond .le 24, 3) := by decide +kernel
theorem dX8_putsNumber_24 : decode cX8_putsNumber 24 = .ok (.aload_n 0, 1) := by decide +kernel
theorem dX8_putsNumber_25 : decode cX8_putsNumber 25 = .ok (.bipush 48, 2) := by decide +kernel
theorem dX8_putsNumber_27 : decode cX8_putsNumber 27 = .ok (.iload_n 1, 1) := by decide +kernel
theorem dX8_putsNumber_28 : decode cX8_putsNumber 28 = .ok (.iload_n 3, 1) := by decide +kernel
theorem dX8_putsNumber_29 : decode cX8_putsNumber 29 = .ok (.idiv, 1) := by decide +kernel
theorem dX8_putsNumber_30 : decode cX8_putsNumber 30 = .ok (.bipush 10, 2) := by decide +kernel
theorem dX8_putsNumber_32 : decode cX8_putsNumber 32 = .ok (.irem, 1) := by decide +kernel
theorem dX8_putsNumber_33 : decode cX8_putsNumber 33 = .ok (.iadd, 1) := by decide +kernel
theorem dX8_putsNumber_34 : decode cX8_putsNumber 34 = .ok (.invokevirtual 144, 3) := by decide +kernel
theorem dX8_putsNumber_37 : decode cX8_putsNumber 37 = .ok (.iload_n 3, 1) := by decide +kernel
theorem dX8_putsNumber_38 : decode cX8_putsNumber 38 = .ok (.bipush 10, 2) := by decide +kernel
theorem dX8_putsNumber_40 : decode cX8_putsNumber 40 = .ok (.idiv, 1) := by decide +kernel
theorem dX8_putsNumber_41 : decode cX8_putsNumber 41 = .ok (.istore_n 3, 1) := by decide +kernel
theorem dX8_putsNumber_42 : decode cX8_putsNumber 42 = .ok (.goto (-22), 3) := by decide +kernel
theorem dX8_putsNumber_45 : decode cX8_putsNumber 45 = .ok (.return_, 1) := by decide +kernel
set_option maxHeartbeats 4000000 in
set_option maxRecDepth 100000 in
theorem c_X8_putsNumber (l : Launch) (E : State) (G : kG) (S T : kSt) (o : Int64) (ad : kAd) (q : Nat) (hq : q < 2 ^ 31) (hw : T.2 0 5 + 10 < 40) : Met l yX8_putsNumber (.code yX8_putsNumber cX8_putsNumber 4 none :: wsL_law) ({ frames := 3, cells := 0, slots := 0, locals := 70 } : Room) (va_Pc [.ref (ad 16 0), .int (nI q)] (kPre E G ad (cto G S T o ad))) (kQv E G (fun ad1 ct1 => ad = ad1 ∧ ct1 = cto G S (wr T (dgs 20 q)) o ad)) 0 0 (kB E.heap.size) := by
  refine Met.ofW (cc := cX8_putsNumber) (maxL := 4) (ret := none) (by decide) rfl ?_
  intro p e s m args below meth c s₁ B hml hv
  obtain ⟨rfl, hM, hK, hW0⟩ := hv
  have hlocks := B.notSynchronized
  have hr := B.returns
  have Z : kZ p m c cX8_putsNumber 4 s _ wsL_law RX8 E G := ⟨⟨B.exec, B.bytes, hml, findClass_of_methodNamed B.named, fun w h => atoms_spec (ws := .code yX8_putsNumber cX8_putsNumber 4 none :: wsL_law) B.pre w (List.mem_cons_of_mem _ h)⟩, hM, hK⟩
  have hx := Z.1.1
  have hb := Z.1.2.1
  have X := kX.of hW0
  have hl := lv_entry ([.ref (ad 16 0), .int (nI q)]) (n := 4) (Nat.le_of_ble_eq_true rfl)
  rw [lg_entry_eq]
  generalize (lg_sl ([.ref (ad 16 0), .int (nI q)]) ++ List.replicate (4 - (lg_sl ([.ref (ad 16 0), .int (nI q)])).length) Slot.unset).toArray = ls at hl ⊢
  have hl : lv_has ls 4 [(0, .ref (ad 16 0)), (1, .int (nI q))] := hl
  refine lv_iconst (v := 1) hx hb dX8_putsNumber_0 (by decide) ?_
  refine lv_istore_n (lv' := [(2, .int 1), (0, .ref (ad 16 0)), (1, .int (nI q))]) hx hb dX8_putsNumber_1 rfl hl (by decide) rfl (fun ls hl => ?_)
  have LOOP_2 : ∀ (d : Nat) (k : Nat), (k = 0 ∨ 10 ^ k ≤ q) → k ≤ 9 → 9 < k + d → ∀ (H : Heap) (locs : List Loc) (ls : Array Slot), kX E G s H locs ad (cto G S T o ad) → lv_has ls 4 [(2, .int (nI (10 ^ k))), (0, .ref (ad 16 0)), (1, .int (nI q))] → W p l e (headSpec (Cond.code yX8_putsNumber cX8_putsNumber 4 none :: wsL_law) ({ frames := 3, cells := 0, slots := 0, locals := 70 } : Room)).room s m ([.ref (ad 16 0), .int (nI q)] : List Value).toArray below meth c H locs 0 0 (MQ below (kQv E G (fun ad1 ct1 => ad = ad1 ∧ ct1 = cto G S (wr T (dgs 20 q)) o ad)) ([.ref (ad 16 0), .int (nI q)] : List Value).toArray s 0 0 (kB E.heap.size)) (F0 m 2 ls []) := by
    intro d
    induction d with
    | zero => intro k hk hk9 hd; intros; exact absurd hd (by omega)
    | succ d ih =>
      intro k hk hk9 hd H locs ls X hl
      have hb9 : 10 ^ k ≤ 10 ^ 9 := Nat.pow_le_pow_right (by decide) hk9
      have hb0 : 0 < 10 ^ k := Nat.pow_pos (by decide)
      refine lv_iload_n hx hb dX8_putsNumber_2 rfl (lv_at hl 2 rfl) ?_
      refine lv_iload_n hx hb dX8_putsNumber_3 rfl (lv_at hl 0 rfl) ?_
      refine lv_idiv hx hb dX8_putsNumber_4 (nI_ne0 hb0 (by omega)) ?_
      refine lv_topi (fun x_4 e_4 => ?_)
      obtain rfl : x_4 = nI (q / 10 ^ k) := e_4.trans (pk_div hq hb0 (by omega))
      refine lv_bipush (v := 9) hx hb dX8_putsNumber_5 (by decide) ?_
      refine lv_icmp_le (tgt := 18) hx hb dX8_putsNumber_7 (by decide) (fun c_7 => ?_) (fun c_7 => ?_)
      · have c_7 : (q / 10 ^ k) ≤ 9 := (nI_leI (a := (q / 10 ^ k)) (b := 9) (Nat.lt_of_le_of_lt (Nat.div_le_self _ _) hq) (by decide)).mp c_7
        refine lv_iload_n hx hb dX8_putsNumber_18 rfl (lv_at hl 0 rfl) ?_
        refine lv_istore_n (lv' := [(3, .int (nI (10 ^ k))), (2, .int (nI (10 ^ k))), (0, .ref (ad 16 0)), (1, .int (nI q))]) hx hb dX8_putsNumber_19 rfl hl (by decide) rfl (fun ls hl => ?_)
        have hlt : q < 10 ^ (k + 1) := by rw [Nat.pow_succ]; have := (Nat.div_lt_iff_lt_mul hb0).mp (show q / 10 ^ k < 10 by omega); rw [Nat.mul_comm]; exact this
        have hdg := dgs_pd 20 k q (by omega) hlt hk
        have e10 : (10 : Nat) ^ k = if k + 1 = 0 then 0 else 10 ^ (k + 1 - 1) := by rw [if_neg (by omega)]; rfl
        rw [e10] at hl
        have LOOP_20 : ∀ (d : Nat) (Tn : kSt) (z : Nat), wr Tn (if z = 0 then [] else pd q (z - 1)) = wr T (dgs 20 q) → Tn.2 0 5 + z < 40 → z ≤ 10 → z < d → ∀ (H : Heap) (locs : List Loc) (ls : Array Slot), kX E G s H locs ad (cto G S Tn o ad) → lv_has ls 4 [(3, .int (nI (if z = 0 then 0 else 10 ^ (z - 1)))), (0, .ref (ad 16 0)), (1, .int (nI q))] → W p l e (headSpec (Cond.code yX8_putsNumber cX8_putsNumber 4 none :: wsL_law) ({ frames := 3, cells := 0, slots := 0, locals := 70 } : Room)).room s m ([.ref (ad 16 0), .int (nI q)] : List Value).toArray below meth c H locs 0 0 (MQ below (kQv E G (fun ad1 ct1 => ad = ad1 ∧ ct1 = cto G S (wr T (dgs 20 q)) o ad)) ([.ref (ad 16 0), .int (nI q)] : List Value).toArray s 0 0 (kB E.heap.size)) (F0 m 20 ls []) := by
          intro d
          induction d with
          | zero => intro Tn z hs hw hz10 hd; intros; exact absurd hd (by omega)
          | succ d ih =>
            intro Tn z hs hw hz10 hd H locs ls X hl
            refine lv_iload_n hx hb dX8_putsNumber_20 rfl (lv_at hl 0 rfl) ?_
            refine lv_if_le (tgt := 45) hx hb dX8_putsNumber_21 (by decide) (fun c_21 => ?_) (fun c_21 => ?_)
            · have hz : z = 0 := by refine Decidable.byContradiction (fun h => ?_); rw [if_neg h] at c_21; have := (nI_leI (a := 10 ^ (z - 1)) (b := 0) (by have : 10 ^ (z - 1) ≤ 10 ^ 9 := Nat.pow_le_pow_right (by decide) (by omega); omega) (by decide)).mp c_21; have := Nat.pow_pos (n := z - 1) (show 0 < 10 by decide); omega
              subst hz
              exact k_vret Z X hr hlocks (Nat.le_of_ble_eq_true rfl) (Nat.le_of_ble_eq_true rfl) dX8_putsNumber_45 ⟨rfl, by rw [← hs]; rfl⟩
            · obtain ⟨y, rfl⟩ : ∃ y, z = y + 1 := ⟨z - 1, by have : z ≠ 0 := fun h => c_21 (by rw [if_pos h]; decide); omega⟩
              rw [show (if y + 1 = 0 then 0 else 10 ^ (y + 1 - 1)) = 10 ^ y from by rw [if_neg (by omega)]; rfl] at hl
              have hb9 : 10 ^ y ≤ 10 ^ 9 := Nat.pow_le_pow_right (by decide) (by omega)
              have hb0 : 0 < 10 ^ y := Nat.pow_pos (by decide)
              refine lv_aload_n hx hb dX8_putsNumber_24 rfl (lv_at hl 1 rfl) ?_
              refine lv_bipush (v := 48) hx hb dX8_putsNumber_25 (by decide) ?_
              refine lv_iload_n hx hb dX8_putsNumber_27 rfl (lv_at hl 2 rfl) ?_
              refine lv_iload_n hx hb dX8_putsNumber_28 rfl (lv_at hl 0 rfl) ?_
              refine lv_idiv hx hb dX8_putsNumber_29 (nI_ne0 hb0 (by omega)) ?_
              refine lv_topi (fun x_29 e_29 => ?_)
              obtain rfl : x_29 = nI (q / 10 ^ y) := e_29.trans (pk_div hq hb0 (by omega))
              refine lv_bipush (v := 10) hx hb dX8_putsNumber_30 (by decide) ?_
              refine lv_irem hx hb dX8_putsNumber_32 (by decide) ?_
              refine lv_topi (fun x_32 e_32 => ?_)
              obtain rfl : x_32 = nI (q / 10 ^ y % 10) := e_32.trans (pk_rem (d := 10) (Nat.lt_of_le_of_lt (Nat.div_le_self _ _) hq) (by decide) (by decide))
              refine lv_iadd hx hb dX8_putsNumber_33 ?_
              refine lv_topi (fun x_33 e_33 => ?_)
              obtain rfl : x_33 = nI (48 + q / 10 ^ y % 10) := e_33.trans (nI_add 48 _)
              refine k_Rv X (k_runV (As := [.int (nI (48 + q / 10 ^ y % 10))]) (rest := []) Z X (c_X8_puts l E G S Tn o ad (48 + q / 10 ^ y % 10) (by omega)) (k_cwV 1 Z.1.2.2.2.2 (inU_38 _ (List.mem_of_getElem? (i := 0) rfl)) (inU_38 _ (List.mem_of_getElem? (i := 1) rfl)) (inU_38 _ (List.mem_of_getElem? (i := 2) rfl)) (inU_1 _ (List.mem_of_getElem? (i := 5) rfl)) (inU_38 _ (List.mem_of_getElem? (i := 3) rfl)) rfl rfl (by decide +kernel) ⟨Nat.le_of_ble_eq_true rfl, Nat.le_of_ble_eq_true rfl⟩) (k_recv Z X ct_16 rfl) rfl hl.1 rfl (Nat.le_of_ble_eq_true rfl) dX8_putsNumber_34 ⟨Nat.le_of_ble_eq_true rfl, Nat.le_of_ble_eq_true rfl⟩) (fun ad1 ct1 H locs hp X => ?_)
              obtain ⟨rfl, rfl⟩ := hp
              refine lv_iload_n hx hb dX8_putsNumber_37 rfl (lv_at hl 0 rfl) ?_
              refine lv_bipush (v := 10) hx hb dX8_putsNumber_38 (by decide) ?_
              refine lv_idiv hx hb dX8_putsNumber_40 (by decide) ?_
              refine lv_topi (fun x_40 e_40 => ?_)
              obtain rfl : x_40 = nI (if y = 0 then 0 else 10 ^ (y - 1)) := e_40.trans (by rw [show (10 : Int32) = nI 10 from rfl, pk_div (by omega) (by decide) (by decide)]; cases y with | zero => rfl | succ y => rw [if_neg (by omega), Nat.pow_succ, Nat.mul_div_cancel _ (by decide)]; rfl)
              refine lv_istore_n (lv' := [(3, .int (nI (if y = 0 then 0 else 10 ^ (y - 1)))), (0, .ref (ad 16 0)), (1, .int (nI q))]) hx hb dX8_putsNumber_41 rfl hl (by decide) rfl (fun ls hl => ?_)
              refine lv_goto (tgt := 20) hx hb dX8_putsNumber_42 (by decide) ?_
              have hw2 : (wr Tn [48 + q / 10 ^ y % 10]).2 0 5 = Tn.2 0 5 + 1 := (wr_r _ _).1
              have hs2 : wr (wr Tn [48 + q / 10 ^ y % 10]) (if y = 0 then [] else pd q (y - 1)) = wr T (dgs 20 q) := by rw [← hs, if_neg (show ¬ y + 1 = 0 by omega), Nat.add_sub_cancel]; cases y with | zero => simp [pd, wr] | succ y => rw [if_neg (by omega)]; rfl
              exact ih (wr Tn [48 + q / 10 ^ y % 10]) y hs2 (by omega) (by omega) (by omega) _ _ _ X (lv_sub hl [0, 1, 2] rfl)
        exact LOOP_20 (k + 2) T (k + 1) (by rw [hdg, if_neg (by omega)]; rfl) (by omega) (by omega) (by omega) _ _ _ X (lv_sub hl [0, 2, 3] rfl)
      · have c_7 : ¬ (q / 10 ^ k) ≤ 9 := fun h => c_7 ((nI_leI (a := (q / 10 ^ k)) (b := 9) (Nat.lt_of_le_of_lt (Nat.div_le_self _ _) hq) (by decide)).mpr h)
        refine lv_iload_n hx hb dX8_putsNumber_10 rfl (lv_at hl 0 rfl) ?_
        refine lv_bipush (v := 10) hx hb dX8_putsNumber_11 (by decide) ?_
        refine lv_imul hx hb dX8_putsNumber_13 ?_
        refine lv_topi (fun x_13 e_13 => ?_)
        obtain rfl : x_13 = nI (10 ^ (k + 1)) := e_13.trans (by rw [show (10 : Int32) = nI 10 from rfl, pk_mul]; rfl)
        refine lv_istore_n (lv' := [(2, .int (nI (10 ^ (k + 1)))), (0, .ref (ad 16 0)), (1, .int (nI q))]) hx hb dX8_putsNumber_14 rfl hl (by decide) rfl (fun ls hl => ?_)
        refine lv_goto (tgt := 2) hx hb dX8_putsNumber_15 (by decide) ?_
        have hge : 10 ^ (k + 1) ≤ q := by rw [Nat.pow_succ]; have h10 : 10 ≤ q / 10 ^ k := (by omega); have := (Nat.le_div_iff_mul_le hb0).mp h10; rw [Nat.mul_comm]; exact this
        have hk10 : k + 1 ≤ 9 := Nat.le_of_not_lt (fun h => by have h9 : 10 ^ 10 ≤ 10 ^ (k + 1) := Nat.pow_le_pow_right (by decide) h; omega)
        exact ih (k + 1) (Or.inr hge) (by omega) (by omega) _ _ _ X (lv_sub hl [0, 1, 2] rfl)
  exact LOOP_2 10 0 (Or.inl rfl) (by omega) (by omega) _ _ _ X (lv_sub hl [0, 1, 2] rfl)
