theorem dX8_spend_0 : decode cX8_spend 0 = .ok (.aload_n 0, 1) := by decide +kernel
theorem dX8_spend_1 : decode cX8_spend 1 = .ok (.iload_n 1, 1) := by decide +kernel
theorem dX8_spend_2 : decode cX8_spend 2 = .ok (.invokevirtual 114, 3) := by decide +kernel
theorem dX8_spend_5 : decode cX8_spend 5 = .ok (.ifCond .eq 15, 3) := by decide +kernel
theorem dX8_spend_8 : decode cX8_spend 8 = .ok (.aload_n 0, 1) := by decide +kernel
theorem dX8_spend_9 : decode cX8_spend 9 = .ok (.iload_n 2, 1) := by decide +kernel
theorem dX8_spend_10 : decode cX8_spend 10 = .ok (.invokevirtual 125, 3) := by decide +kernel
theorem dX8_spend_13 : decode cX8_spend 13 = .ok (.ifCond .eq 7, 3) := by decide +kernel
theorem dX8_spend_16 : decode cX8_spend 16 = .ok (.iconst 1, 1) := by decide +kernel
theorem dX8_spend_17 : decode cX8_spend 17 = .ok (.goto 4, 3) := by decide +kernel
theorem dX8_spend_20 : decode cX8_spend 20 = .ok (.iconst 0, 1) := by decide +kernel
theorem dX8_spend_21 : decode cX8_spend 21 = .ok (.istore 4, 2) := by decide +kernel
theorem dX8_spend_23 : decode cX8_spend 23 = .ok (.iload_n 3, 1) := by decide +kernel
theorem dX8_spend_24 : decode cX8_spend 24 = .ok (.iconst 1, 1) := by decide +kernel
theorem dX8_spend_25 : decode cX8_spend 25 = .ok (.ldc 120, 2) := by decide +kernel
theorem dX8_spend_27 : decode cX8_spend 27 = .ok (.invokestatic 84, 3) := by decide +kernel
theorem dX8_spend_30 : decode cX8_spend 30 = .ok (.istore 5, 2) := by decide +kernel
theorem dX8_spend_32 : decode cX8_spend 32 = .ok (.iload 4, 2) := by decide +kernel
theorem dX8_spend_34 : decode cX8_spend 34 = .ok (.ifCond .eq 62, 3) := by decide +kernel
theorem dX8_spend_37 : decode cX8_spend 37 = .ok (.iload 5, 2) := by decide +kernel
theorem dX8_spend_39 : decode cX8_spend 39 = .ok (.ifCond .eq 57, 3) := by decide +kernel
theorem dX8_spend_42 : decode cX8_spend 42 = .ok (.aload_n 0, 1) := by decide +kernel
theorem dX8_spend_43 : decode cX8_spend 43 = .ok (.iload_n 1, 1) := by decide +kernel
theorem dX8_spend_44 : decode cX8_spend 44 = .ok (.invokevirtual 94, 3) := by decide +kernel
theorem dX8_spend_47 : decode cX8_spend 47 = .ok (.ifCond .ne 49, 3) := by decide +kernel
theorem dX8_spend_50 : decode cX8_spend 50 = .ok (.aload_n 0, 1) := by decide +kernel
theorem dX8_spend_51 : decode cX8_spend 51 = .ok (.getfield 38, 3) := by decide +kernel
theorem dX8_spend_54 : decode cX8_spend 54 = .ok (.iload_n 2, 1) := by decide +kernel
theorem dX8_spend_55 : decode cX8_spend 55 = .ok (.baload, 1) := by decide +kernel
theorem dX8_spend_56 : decode cX8_spend 56 = .ok (.ifCond .ne 40, 3) := by decide +kernel
theorem dX8_spend_59 : decode cX8_spend 59 = .ok (.aload_n 0, 1) := by decide +kernel
theorem dX8_spend_60 : decode cX8_spend 60 = .ok (.getfield 102, 3) := by decide +kernel
theorem dX8_spend_63 : decode cX8_spend 63 = .ok (.bipush 60, 2) := by decide +kernel
theorem dX8_spend_65 : decode cX8_spend 65 = .ok (.if_icmp .ge 31, 3) := by decide +kernel
theorem dX8_spend_68 : decode cX8_spend 68 = .ok (.aload_n 0, 1) := by decide +kernel
theorem dX8_spend_69 : decode cX8_spend 69 = .ok (.iload_n 2, 1) := by decide +kernel
theorem dX8_spend_70 : decode cX8_spend 70 = .ok (.iload_n 3, 1) := by decide +kernel
theorem dX8_spend_71 : decode cX8_spend 71 = .ok (.invokevirtual 105, 3) := by decide +kernel
theorem dX8_spend_74 : decode cX8_spend 74 = .ok (.ifCond .eq 22, 3) := by decide +kernel
theorem dX8_spend_77 : decode cX8_spend 77 = .ok (.aload_n 0, 1) := by decide +kernel
theorem dX8_spend_78 : decode cX8_spend 78 = .ok (.getfield 16, 3) := by decide +kernel
theorem dX8_spend_81 : decode cX8_spend 81 = .ok (.aload_n 0, 1) := by decide +kernel
theorem dX8_spend_82 : decode cX8_spend 82 = .ok (.getfield 26, 3) := by decide +kernel
theorem dX8_spend_85 : decode cX8_spend 85 = .ok (.iload_n 2, 1) := by decide +kernel
theorem dX8_spend_86 : decode cX8_spend 86 = .ok (.iaload, 1) := by decide +kernel
theorem dX8_spend_87 : decode cX8_spend 87 = .ok (.iaload, 1) := by decide +kernel
theorem dX8_spend_88 : decode cX8_spend 88 = .ok (.iload_n 3, 1) := by decide +kernel
theorem dX8_spend_89 : decode cX8_spend 89 = .ok (.if_icmp .lt 7, 3) := by decide +kernel
theorem dX8_spend_92 : decode cX8_spend 92 = .ok (.iconst 1, 1) := by decide +kernel
theorem dX8_spend_93 : decode cX8_spend 93 = .ok (.goto 4, 3) := by decide +kernel
theorem dX8_spend_96 : decode cX8_spend 96 = .ok (.iconst 0, 1) := by decide +kernel
theorem dX8_spend_97 : decode cX8_spend 97 = .ok (.istore 6, 2) := by decide +kernel
theorem dX8_spend_99 : decode cX8_spend 99 = .ok (.aload_n 0, 1) := by decide +kernel
theorem dX8_spend_100 : decode cX8_spend 100 = .ok (.iload 4, 2) := by decide +kernel
theorem dX8_spend_102 : decode cX8_spend 102 = .ok (.ifCond .ne 7, 3) := by decide +kernel
theorem dX8_spend_105 : decode cX8_spend 105 = .ok (.iconst 1, 1) := by decide +kernel
theorem dX8_spend_106 : decode cX8_spend 106 = .ok (.goto 22, 3) := by decide +kernel
theorem dX8_spend_109 : decode cX8_spend 109 = .ok (.iload 5, 2) := by decide +kernel
theorem dX8_spend_111 : decode cX8_spend 111 = .ok (.ifCond .ne 7, 3) := by decide +kernel
theorem dX8_spend_114 : decode cX8_spend 114 = .ok (.iconst 2, 1) := by decide +kernel
theorem dX8_spend_115 : decode cX8_spend 115 = .ok (.goto 13, 3) := by decide +kernel
theorem dX8_spend_118 : decode cX8_spend 118 = .ok (.iload 6, 2) := by decide +kernel
theorem dX8_spend_120 : decode cX8_spend 120 = .ok (.ifCond .eq 7, 3) := by decide +kernel
theorem dX8_spend_123 : decode cX8_spend 123 = .ok (.iconst 0, 1) := by decide +kernel
theorem dX8_spend_124 : decode cX8_spend 124 = .ok (.goto 4, 3) := by decide +kernel
theorem dX8_spend_127 : decode cX8_spend 127 = .ok (.iconst 3, 1) := by decide +kernel
theorem dX8_spend_128 : decode cX8_spend 128 = .ok (.invokevirtual 111, 3) := by decide +kernel
theorem dX8_spend_131 : decode cX8_spend 131 = .ok (.ifCond .eq 5, 3) := by decide +kernel
theorem dX8_spend_134 : decode cX8_spend 134 = .ok (.iconst 0, 1) := by decide +kernel
theorem dX8_spend_135 : decode cX8_spend 135 = .ok (.ireturn, 1) := by decide +kernel
theorem dX8_spend_136 : decode cX8_spend 136 = .ok (.aload_n 0, 1) := by decide +kernel
theorem dX8_spend_137 : decode cX8_spend 137 = .ok (.getfield 47, 3) := by decide +kernel
theorem dX8_spend_140 : decode cX8_spend 140 = .ok (.aload_n 0, 1) := by decide +kernel
theorem dX8_spend_141 : decode cX8_spend 141 = .ok (.getfield 102, 3) := by decide +kernel
theorem dX8_spend_144 : decode cX8_spend 144 = .ok (.iload_n 2, 1) := by decide +kernel
theorem dX8_spend_145 : decode cX8_spend 145 = .ok (.iastore, 1) := by decide +kernel
theorem dX8_spend_146 : decode cX8_spend 146 = .ok (.aload_n 0, 1) := by decide +kernel
theorem dX8_spend_147 : decode cX8_spend 147 = .ok (.getfield 50, 3) := by decide +kernel
theorem dX8_spend_150 : decode cX8_spend 150 = .ok (.aload_n 0, 1) := by decide +kernel
theorem dX8_spend_151 : decode cX8_spend 151 = .ok (.getfield 102, 3) := by decide +kernel
theorem dX8_spend_154 : decode cX8_spend 154 = .ok (.aload_n 0, 1) := by decide +kernel
theorem dX8_spend_155 : decode cX8_spend 155 = .ok (.getfield 32, 3) := by decide +kernel
theorem dX8_spend_158 : decode cX8_spend 158 = .ok (.iload_n 2, 1) := by decide +kernel
theorem dX8_spend_159 : decode cX8_spend 159 = .ok (.iaload, 1) := by decide +kernel
theorem dX8_spend_160 : decode cX8_spend 160 = .ok (.iastore, 1) := by decide +kernel
theorem dX8_spend_161 : decode cX8_spend 161 = .ok (.aload_n 0, 1) := by decide +kernel
theorem dX8_spend_162 : decode cX8_spend 162 = .ok (.getfield 53, 3) := by decide +kernel
theorem dX8_spend_165 : decode cX8_spend 165 = .ok (.aload_n 0, 1) := by decide +kernel
theorem dX8_spend_166 : decode cX8_spend 166 = .ok (.getfield 102, 3) := by decide +kernel
theorem dX8_spend_169 : decode cX8_spend 169 = .ok (.iload_n 3, 1) := by decide +kernel
theorem dX8_spend_170 : decode cX8_spend 170 = .ok (.iastore, 1) := by decide +kernel
theorem dX8_spend_171 : decode cX8_spend 171 = .ok (.aload_n 0, 1) := by decide +kernel
theorem dX8_spend_172 : decode cX8_spend 172 = .ok (.getfield 56, 3) := by decide +kernel
theorem dX8_spend_175 : decode cX8_spend 175 = .ok (.aload_n 0, 1) := by decide +kernel
theorem dX8_spend_176 : decode cX8_spend 176 = .ok (.getfield 102, 3) := by decide +kernel
theorem dX8_spend_179 : decode cX8_spend 179 = .ok (.iconst 0, 1) := by decide +kernel
theorem dX8_spend_180 : decode cX8_spend 180 = .ok (.bastore, 1) := by decide +kernel
theorem dX8_spend_181 : decode cX8_spend 181 = .ok (.aload_n 0, 1) := by decide +kernel
theorem dX8_spend_182 : decode cX8_spend 182 = .ok (.getfield 16, 3) := by decide +kernel
theorem dX8_spend_185 : decode cX8_spend 185 = .ok (.aload_n 0, 1) := by decide +kernel
theorem dX8_spend_186 : decode cX8_spend 186 = .ok (.getfield 26, 3) := by decide +kernel
theorem dX8_spend_189 : decode cX8_spend 189 = .ok (.iload_n 2, 1) := by decide +kernel
theorem dX8_spend_190 : decode cX8_spend 190 = .ok (.iaload, 1) := by decide +kernel
theorem dX8_spend_191 : decode cX8_spend 191 = .ok (.dup2, 1) := by decide +kernel
theorem dX8_spend_192 : decode cX8_spend 192 = .ok (.iaload, 1) := by decide +kernel
theorem dX8_spend_193 : decode cX8_spend 193 = .ok (.iload_n 3, 1) := by decide +kernel
theorem dX8_spend_194 : decode cX8_spend 194 = .ok (.isub, 1) := by decide +kernel
theorem dX8_spend_195 : decode cX8_spend 195 = .ok (.iastore, 1) := by decide +kernel
theorem dX8_spend_196 : decode cX8_spend 196 = .ok (.aload_n 0, 1) := by decide +kernel
theorem dX8_spend_197 : decode cX8_spend 197 = .ok (.dup, 1) := by decide +kernel
theorem dX8_spend_198 : decode cX8_spend 198 = .ok (.getfield 102, 3) := by decide +kernel
theorem dX8_spend_201 : decode cX8_spend 201 = .ok (.iconst 1, 1) := by decide +kernel
theorem dX8_spend_202 : decode cX8_spend 202 = .ok (.iadd, 1) := by decide +kernel
theorem dX8_spend_203 : decode cX8_spend 203 = .ok (.putfield 102, 3) := by decide +kernel
theorem dX8_spend_206 : decode cX8_spend 206 = .ok (.aload_n 0, 1) := by decide +kernel
theorem dX8_spend_207 : decode cX8_spend 207 = .ok (.getfield 102, 3) := by decide +kernel
theorem dX8_spend_210 : decode cX8_spend 210 = .ok (.iconst 1, 1) := by decide +kernel
theorem dX8_spend_211 : decode cX8_spend 211 = .ok (.isub, 1) := by decide +kernel
theorem dX8_spend_212 : decode cX8_spend 212 = .ok (.ireturn, 1) := by decide +kernel
set_option maxHeartbeats 4000000 in
set_option maxRecDepth 100000 in
theorem c_X8_spend (l : Launch) (E : State) (G : kG) (S T : kSt) (o : Int64) (ad : kAd) (xu xm xa : Int32) (hT : okN T) : Met l yX8_spend (.code yX8_spend cX8_spend 7 (some .int) :: wsL_law) ({ frames := 6, cells := 0, slots := 0, locals := 130 } : Room) (va_Pc [.ref (ad 16 0), .int xu, .int xm, .int xa] (kPre E G ad (cto G S T o ad))) (kQi E G (fun r ad1 ct1 => (cSpend T (kdT T) xu xm xa = 0 → r = nI (T.2 0 2)) ∧ ad = ad1 ∧ ct1 = cto G S (if cSpend T (kdT T) xu xm xa = 0 then oSpend (sI T 24 0 0) xm xa else sI T 24 0 (cSpend T (kdT T) xu xm xa)) o ad)) 0 0 (kB E.heap.size) := by
  refine Met.ofW (cc := cX8_spend) (maxL := 7) (ret := (some .int)) (by decide) rfl ?_
  intro p e s m args below meth c s₁ B hml hv
  obtain ⟨rfl, hM, hK, hW0⟩ := hv
  have hlocks := B.notSynchronized
  have hr := B.returns
  have Z : kZ p m c cX8_spend 7 s _ wsL_law RX8 E G := ⟨⟨B.exec, B.bytes, hml, findClass_of_methodNamed B.named, fun w h => atoms_spec (ws := .code yX8_spend cX8_spend 7 (some .int) :: wsL_law) B.pre w (List.mem_cons_of_mem _ h)⟩, hM, hK⟩
  have hx := Z.1.1
  have hb := Z.1.2.1
  have X := kX.of hW0
  have hl := lv_entry ([.ref (ad 16 0), .int xu, .int xm, .int xa]) (n := 7) (Nat.le_of_ble_eq_true rfl)
  rw [lg_entry_eq]
  generalize (lg_sl ([.ref (ad 16 0), .int xu, .int xm, .int xa]) ++ List.replicate (7 - (lg_sl ([.ref (ad 16 0), .int xu, .int xm, .int xa])).length) Slot.unset).toArray = ls at hl ⊢
  have hl : lv_has ls 7 [(0, .ref (ad 16 0)), (1, .int xu), (2, .int xm), (3, .int xa)] := hl
  have hT0 := hT
  obtain ⟨hT1, hT2, hT3, hT4, hT5, hT6, hT7⟩ := hT0
  have M_21 : ∀ (H : Heap) (locs : List Loc), kX E G s H locs ad (cto G S T o ad) → W p l e (headSpec (Cond.code yX8_spend cX8_spend 7 (some .int) :: wsL_law) ({ frames := 6, cells := 0, slots := 0, locals := 130 } : Room)).room s m ([.ref (ad 16 0), .int xu, .int xm, .int xa] : List Value).toArray below meth c H locs 0 0 (MQ below (kQi E G (fun r ad1 ct1 => (cSpend T (kdT T) xu xm xa = 0 → r = nI (T.2 0 2)) ∧ ad = ad1 ∧ ct1 = cto G S (if cSpend T (kdT T) xu xm xa = 0 then oSpend (sI T 24 0 0) xm xa else sI T 24 0 (cSpend T (kdT T) xu xm xa)) o ad)) ([.ref (ad 16 0), .int xu, .int xm, .int xa] : List Value).toArray s 0 0 (kB E.heap.size)) (F0 m 21 ls [.int (bI (inB xu (T.2 0 0) && inB xm (T.2 0 1)))]) := by
    intro H locs X
    refine lv_istore (lv' := [(4, .int (bI (inB xu (T.2 0 0) && inB xm (T.2 0 1)))), (0, .ref (ad 16 0)), (1, .int xu), (2, .int xm), (3, .int xa)]) hx hb dX8_spend_21 hl (by decide) rfl (fun ls hl => ?_)
    refine lv_iload_n hx hb dX8_spend_23 rfl (lv_at hl 4 rfl) ?_
    refine lv_iconst (v := 1) hx hb dX8_spend_24 (by decide) ?_
    refine lv_ldc (v := 1000000) hx hb Z.1.2.2.2.1 (Z.1.2.2.2.2 _ (inU_14 _ (List.mem_of_getElem? (i := 13) rfl))) dX8_spend_25 ?_
    refine k_Ri X (k_runS (As := [.int xa, .int 1, .int 1000000]) (rest := []) Z X (c_X8_isIn l E G S T o ad xa 1 1000000) (k_cwS 3 Z.1.2.2.2.2 (inU_8 _ (List.mem_of_getElem? (i := 23) rfl)) (inU_9 _ (List.mem_of_getElem? (i := 0) rfl)) (inU_1 _ (List.mem_of_getElem? (i := 5) rfl)) (inU_9 _ (List.mem_of_getElem? (i := 1) rfl)) rfl rfl (by decide +kernel) ⟨Nat.le_of_ble_eq_true rfl, Nat.le_of_ble_eq_true rfl⟩) rfl hl.1 rfl (Nat.le_of_ble_eq_true rfl) dX8_spend_27 ⟨Nat.le_of_ble_eq_true rfl, Nat.le_of_ble_eq_true rfl⟩) (fun r_27 ad1 ct1 H locs hp X => ?_)
    obtain ⟨rfl, rfl, rfl⟩ := hp
    refine lv_istore (lv' := [(5, .int (bI (inR xa 1 1000000))), (4, .int (bI (inB xu (T.2 0 0) && inB xm (T.2 0 1)))), (0, .ref (ad 16 0)), (1, .int xu), (2, .int xm), (3, .int xa)]) hx hb dX8_spend_30 hl (by decide) rfl (fun ls hl => ?_)
    have M_97 : ∀ (H : Heap) (locs : List Loc), kX E G s H locs ad (cto G S T o ad) → W p l e (headSpec (Cond.code yX8_spend cX8_spend 7 (some .int) :: wsL_law) ({ frames := 6, cells := 0, slots := 0, locals := 130 } : Room)).room s m ([.ref (ad 16 0), .int xu, .int xm, .int xa] : List Value).toArray below meth c H locs 0 0 (MQ below (kQi E G (fun r ad1 ct1 => (cSpend T (kdT T) xu xm xa = 0 → r = nI (T.2 0 2)) ∧ ad = ad1 ∧ ct1 = cto G S (if cSpend T (kdT T) xu xm xa = 0 then oSpend (sI T 24 0 0) xm xa else sI T 24 0 (cSpend T (kdT T) xu xm xa)) o ad)) ([.ref (ad 16 0), .int xu, .int xm, .int xa] : List Value).toArray s 0 0 (kB E.heap.size)) (F0 m 97 ls [.int (bI ((inB xu (T.2 0 0) && inB xm (T.2 0 1)) && ((inR xa 1 1000000) && (!gone T (cl xu) && (decide (T.1 8 (cl xm) = 0) && (decide (T.2 0 2 < 60) && (appr T (kdT T (cl xm)) (T.2 1 (cl xm)) (T.2 0 0) xa && decide (¬ T.1 3 (T.2 2 (cl xm)) < xa))))))))]) := by
      intro H locs X
      refine lv_istore (lv' := [(6, .int (bI ((inB xu (T.2 0 0) && inB xm (T.2 0 1)) && ((inR xa 1 1000000) && (!gone T (cl xu) && (decide (T.1 8 (cl xm) = 0) && (decide (T.2 0 2 < 60) && (appr T (kdT T (cl xm)) (T.2 1 (cl xm)) (T.2 0 0) xa && decide (¬ T.1 3 (T.2 2 (cl xm)) < xa))))))))), (5, .int (bI (inR xa 1 1000000))), (4, .int (bI (inB xu (T.2 0 0) && inB xm (T.2 0 1)))), (0, .ref (ad 16 0)), (1, .int xu), (2, .int xm), (3, .int xa)]) hx hb dX8_spend_97 hl (by decide) rfl (fun ls hl => ?_)
      refine lv_aload_n hx hb dX8_spend_99 rfl (lv_at hl 3 rfl) ?_
      refine lv_iload hx hb dX8_spend_100 (lv_at hl 2 rfl) ?_
      refine lv_if_ne (tgt := 109) hx hb dX8_spend_102 (by decide) (fun c_102 => ?_) (fun c_102 => ?_)
      · have c_102 : (inB xu (T.2 0 0) && inB xm (T.2 0 1)) = true := bI_1 c_102
        refine lv_iload hx hb dX8_spend_109 (lv_at hl 1 rfl) ?_
        refine lv_if_ne (tgt := 118) hx hb dX8_spend_111 (by decide) (fun c_111 => ?_) (fun c_111 => ?_)
        · have c_111 : (inR xa 1 1000000) = true := bI_1 c_111
          refine lv_iload hx hb dX8_spend_118 (lv_at hl 0 rfl) ?_
          refine lv_if_eq (tgt := 127) hx hb dX8_spend_120 (by decide) (fun c_120 => ?_) (fun c_120 => ?_)
          · have c_120 : (!gone T (cl xu) && (decide (T.1 8 (cl xm) = 0) && (decide (T.2 0 2 < 60) && (appr T (kdT T (cl xm)) (T.2 1 (cl xm)) (T.2 0 0) xa && decide (¬ T.1 3 (T.2 2 (cl xm)) < xa))))) = false := by have h := bI_0 c_120; rw [c_102, c_111, Bool.true_and, Bool.true_and] at h; exact h
            refine lv_iconst (v := 3) hx hb dX8_spend_127 (by decide) ?_
            refine k_Ri X (k_runV (As := [.int 3]) (rest := []) Z X (c_X8_fails l E G S T o ad 3) (k_cwV 1 Z.1.2.2.2.2 (inU_9 _ (List.mem_of_getElem? (i := 2) rfl)) (inU_9 _ (List.mem_of_getElem? (i := 3) rfl)) (inU_9 _ (List.mem_of_getElem? (i := 4) rfl)) (inU_1 _ (List.mem_of_getElem? (i := 5) rfl)) (inU_9 _ (List.mem_of_getElem? (i := 5) rfl)) rfl rfl (by decide +kernel) ⟨Nat.le_of_ble_eq_true rfl, Nat.le_of_ble_eq_true rfl⟩) (k_recv Z X ct_16 rfl) rfl hl.1 rfl (Nat.le_of_ble_eq_true rfl) dX8_spend_128 ⟨Nat.le_of_ble_eq_true rfl, Nat.le_of_ble_eq_true rfl⟩) (fun r_128 ad1 ct1 H locs hp X => ?_)
            obtain ⟨rfl, rfl, rfl⟩ := hp
            refine lv_topi (fun x_128 e_128 => ?_)
            obtain rfl : x_128 = 1 := e_128.trans (by decide)
            refine lv_if_eq (tgt := 136) hx hb dX8_spend_131 (by decide) (fun c_131 => ?_) (fun c_131 => ?_)
            · exact absurd c_131 (by decide)
            · refine lv_iconst (v := 0) hx hb dX8_spend_134 (by decide) ?_
              have hk : cSpend T (kdT T) xu xm xa = 3 := by rw [cSpend, if_neg (by rw [c_102]; decide), if_neg (by rw [c_111]; decide), if_pos c_120]
              exact k_iret Z X hr hlocks rfl (Nat.le_of_ble_eq_true rfl) (Nat.le_of_ble_eq_true rfl) dX8_spend_135 ⟨fun h => absurd (hk.symm.trans h) (by decide), rfl, by rw [hk, if_neg (by decide)]⟩
          · have c_120 : (!gone T (cl xu) && (decide (T.1 8 (cl xm) = 0) && (decide (T.2 0 2 < 60) && (appr T (kdT T (cl xm)) (T.2 1 (cl xm)) (T.2 0 0) xa && decide (¬ T.1 3 (T.2 2 (cl xm)) < xa))))) = true := by have h := bI_1 c_120; rw [c_102, c_111, Bool.true_and, Bool.true_and] at h; exact h
            refine lv_iconst (v := 0) hx hb dX8_spend_123 (by decide) ?_
            refine lv_goto (tgt := 128) hx hb dX8_spend_124 (by decide) ?_
            refine k_Ri X (k_runV (As := [.int 0]) (rest := []) Z X (c_X8_fails l E G S T o ad 0) (k_cwV 1 Z.1.2.2.2.2 (inU_9 _ (List.mem_of_getElem? (i := 2) rfl)) (inU_9 _ (List.mem_of_getElem? (i := 3) rfl)) (inU_9 _ (List.mem_of_getElem? (i := 4) rfl)) (inU_1 _ (List.mem_of_getElem? (i := 5) rfl)) (inU_9 _ (List.mem_of_getElem? (i := 5) rfl)) rfl rfl (by decide +kernel) ⟨Nat.le_of_ble_eq_true rfl, Nat.le_of_ble_eq_true rfl⟩) (k_recv Z X ct_16 rfl) rfl hl.1 rfl (Nat.le_of_ble_eq_true rfl) dX8_spend_128 ⟨Nat.le_of_ble_eq_true rfl, Nat.le_of_ble_eq_true rfl⟩) (fun r_128 ad1 ct1 H locs hp X => ?_)
            obtain ⟨rfl, rfl, rfl⟩ := hp
            refine lv_topi (fun x_128 e_128 => ?_)
            obtain rfl : x_128 = 0 := e_128.trans (by decide)
            refine lv_if_eq (tgt := 136) hx hb dX8_spend_131 (by decide) (fun c_131 => ?_) (fun c_131 => ?_)
            · have q_102 := c_102
              simp only [Bool.and_eq_true] at q_102
              obtain ⟨q_u, q_m⟩ := q_102
              obtain ⟨ju, hju, hxu⟩ := inB_of q_u (by omega)
              subst hxu
              have hcu : cl (nI ju) = ju := nI_clamp (by omega)
              obtain ⟨jm, hjm, hxm⟩ := inB_of q_m (by omega)
              subst hxm
              have hcm : cl (nI jm) = jm := nI_clamp (by omega)
              have h5m := hT5 _ hjm
              have q_n : T.2 0 2 < 60 := by simp only [Bool.and_eq_true, decide_eq_true_eq] at c_120; exact c_120.2.2.1
              refine lv_aload_n hx hb dX8_spend_136 rfl (lv_at hl 3 rfl) ?_
              refine k_get (index := 47) (j := 16) (ad := ad) (k := 16) (i := 0) Z X ct_16 inlX8 rfl (by decide) (inU_6 _ (List.mem_of_getElem? (i := 19) rfl)) (fun _ h => h) (v := .ref (ad 17 12)) rfl dX8_spend_137 ?_
              refine lv_aload_n hx hb dX8_spend_140 rfl (lv_at hl 3 rfl) ?_
              refine k_get (index := 102) (j := 15) (ad := ad) (k := 16) (i := 0) Z X ct_16 inlX8 rfl (by decide) (inU_12 _ (List.mem_of_getElem? (i := 17) rfl)) (fun _ h => h) (v := .int (nI (T.2 0 2))) rfl dX8_spend_141 ?_
              refine lv_iload_n hx hb dX8_spend_144 rfl (lv_at hl 5 rfl) ?_
              refine k_ist (ad := ad) (k := 17) (i := 12) Z X ct_17_12 (vp_in_nI (by first | assumption | omega) (by decide)) dX8_spend_145 (fun H locs X => ?_)
              have X : kX E G s H locs ad (cto G S (sN (sI T 24 0 0)  3 (T.2 0 2) jm) o ad) := X.eq (st_17_12 _ _ (by omega))
              refine lv_aload_n hx hb dX8_spend_146 rfl (lv_at hl 3 rfl) ?_
              refine k_get (index := 50) (j := 17) (ad := ad) (k := 16) (i := 0) Z X ct_16 inlX8 rfl (by decide) (inU_6 _ (List.mem_of_getElem? (i := 20) rfl)) (fun _ h => h) (v := .ref (ad 17 13)) rfl dX8_spend_147 ?_
              refine lv_aload_n hx hb dX8_spend_150 rfl (lv_at hl 3 rfl) ?_
              refine k_get (index := 102) (j := 15) (ad := ad) (k := 16) (i := 0) Z X ct_16 inlX8 rfl (by decide) (inU_12 _ (List.mem_of_getElem? (i := 17) rfl)) (fun _ h => h) (v := .int (nI (T.2 0 2))) rfl dX8_spend_151 ?_
              refine lv_aload_n hx hb dX8_spend_154 rfl (lv_at hl 3 rfl) ?_
              refine k_get (index := 32) (j := 10) (ad := ad) (k := 16) (i := 0) Z X ct_16 inlX8 rfl (by decide) (inU_6 _ (List.mem_of_getElem? (i := 14) rfl)) (fun _ h => h) (v := .ref (ad 17 7)) rfl dX8_spend_155 ?_
              refine lv_iload_n hx hb dX8_spend_158 rfl (lv_at hl 5 rfl) ?_
              refine k_ild (ad := ad) (k := 17) (i := 7) Z X ct_17_7 (vp_in_nI (by first | assumption | omega) (by decide)) dX8_spend_159 ?_
              refine lv_topi (fun x_159 e_159 => ?_)
              obtain rfl : x_159 = T.1 7 jm := e_159.trans (by first | (simp only [nI_clamp (show jm < 2 ^ 31 by omega)]; done) | (simp only [nI_clamp (show jm < 2 ^ 31 by omega)]; rfl) | (simp only [nI_clamp (show jm < 2 ^ 31 by omega)]; simp [sI, sN]; done))
              refine k_ist (ad := ad) (k := 17) (i := 13) Z X ct_17_13 (vp_in_nI (by first | assumption | omega) (by decide)) dX8_spend_160 (fun H locs X => ?_)
              have X : kX E G s H locs ad (cto G S (sI (sN (sI T 24 0 0)  3 (T.2 0 2) jm) 10 (T.2 0 2) (T.1 7 jm)) o ad) := X.eq (st_17_13 _ _ (by omega))
              refine lv_aload_n hx hb dX8_spend_161 rfl (lv_at hl 3 rfl) ?_
              refine k_get (index := 53) (j := 18) (ad := ad) (k := 16) (i := 0) Z X ct_16 inlX8 rfl (by decide) (inU_6 _ (List.mem_of_getElem? (i := 21) rfl)) (fun _ h => h) (v := .ref (ad 17 14)) rfl dX8_spend_162 ?_
              refine lv_aload_n hx hb dX8_spend_165 rfl (lv_at hl 3 rfl) ?_
              refine k_get (index := 102) (j := 15) (ad := ad) (k := 16) (i := 0) Z X ct_16 inlX8 rfl (by decide) (inU_12 _ (List.mem_of_getElem? (i := 17) rfl)) (fun _ h => h) (v := .int (nI (T.2 0 2))) rfl dX8_spend_166 ?_
              refine lv_iload_n hx hb dX8_spend_169 rfl (lv_at hl 6 rfl) ?_
              refine k_ist (ad := ad) (k := 17) (i := 14) Z X ct_17_14 (vp_in_nI (by first | assumption | omega) (by decide)) dX8_spend_170 (fun H locs X => ?_)
              have X : kX E G s H locs ad (cto G S (sI (sI (sN (sI T 24 0 0)  3 (T.2 0 2) jm) 10 (T.2 0 2) (T.1 7 jm)) 11 (T.2 0 2) xa) o ad) := X.eq (st_17_14 _ _ (by omega))
              refine lv_aload_n hx hb dX8_spend_171 rfl (lv_at hl 3 rfl) ?_
              refine k_get (index := 56) (j := 19) (ad := ad) (k := 16) (i := 0) Z X ct_16 inlX8 rfl (by decide) (inU_6 _ (List.mem_of_getElem? (i := 22) rfl)) (fun _ h => h) (v := .ref (ad 17 15)) rfl dX8_spend_172 ?_
              refine lv_aload_n hx hb dX8_spend_175 rfl (lv_at hl 3 rfl) ?_
              refine k_get (index := 102) (j := 15) (ad := ad) (k := 16) (i := 0) Z X ct_16 inlX8 rfl (by decide) (inU_12 _ (List.mem_of_getElem? (i := 17) rfl)) (fun _ h => h) (v := .int (nI (T.2 0 2))) rfl dX8_spend_176 ?_
              refine lv_iconst (v := 0) hx hb dX8_spend_179 (by decide) ?_
              refine k_zst (ad := ad) (k := 17) (i := 15) Z X ct_17_15 (vp_in_nI (by first | assumption | omega) (by decide)) (Or.inl rfl) dX8_spend_180 (fun H locs X => ?_)
              have X : kX E G s H locs ad (cto G S (sI (sI (sI (sN (sI T 24 0 0)  3 (T.2 0 2) jm) 10 (T.2 0 2) (T.1 7 jm)) 11 (T.2 0 2) xa) 12 (T.2 0 2) 0) o ad) := X.eq (st_17_15 _ _ (by omega))
              refine lv_aload_n hx hb dX8_spend_181 rfl (lv_at hl 3 rfl) ?_
              refine k_get (index := 16) (j := 4) (ad := ad) (k := 16) (i := 0) Z X ct_16 inlX8 rfl (by decide) (inU_6 _ (List.mem_of_getElem? (i := 8) rfl)) (fun _ h => h) (v := .ref (ad 17 2)) rfl dX8_spend_182 ?_
              refine lv_aload_n hx hb dX8_spend_185 rfl (lv_at hl 3 rfl) ?_
              refine k_get (index := 26) (j := 8) (ad := ad) (k := 16) (i := 0) Z X ct_16 inlX8 rfl (by decide) (inU_6 _ (List.mem_of_getElem? (i := 12) rfl)) (fun _ h => h) (v := .ref (ad 17 5)) rfl dX8_spend_186 ?_
              refine lv_iload_n hx hb dX8_spend_189 rfl (lv_at hl 5 rfl) ?_
              refine k_ild (ad := ad) (k := 17) (i := 5) Z X ct_17_5 (vp_in_nI (by first | assumption | omega) (by decide)) dX8_spend_190 ?_
              refine lv_topi (fun x_190 e_190 => ?_)
              obtain rfl : x_190 = nI (T.2 2 jm) := e_190.trans (by first | (simp only [nI_clamp (show jm < 2 ^ 31 by omega)]; done) | (simp only [nI_clamp (show jm < 2 ^ 31 by omega)]; rfl) | (simp only [nI_clamp (show jm < 2 ^ 31 by omega)]; simp [sI, sN]; done))
              refine lv_dup2_11 hx hb dX8_spend_191 rfl rfl ?_
              refine k_ild (ad := ad) (k := 17) (i := 2) Z X ct_17_2 (vp_in_nI (by first | assumption | omega) (by decide)) dX8_spend_192 ?_
              refine lv_topi (fun x_192 e_192 => ?_)
              obtain rfl : x_192 = T.1 3 (T.2 2 jm) := e_192.trans (by first | (simp only [nI_clamp (show T.2 2 jm < 2 ^ 31 by omega)]; done) | (simp only [nI_clamp (show T.2 2 jm < 2 ^ 31 by omega)]; rfl) | (simp only [nI_clamp (show T.2 2 jm < 2 ^ 31 by omega)]; simp [sI, sN]; done))
              refine lv_iload_n hx hb dX8_spend_193 rfl (lv_at hl 6 rfl) ?_
              refine lv_isub hx hb dX8_spend_194 ?_
              refine k_ist (ad := ad) (k := 17) (i := 2) Z X ct_17_2 (vp_in_nI (by first | assumption | omega) (by decide)) dX8_spend_195 (fun H locs X => ?_)
              have X : kX E G s H locs ad (cto G S (sI (sI (sI (sI (sN (sI T 24 0 0)  3 (T.2 0 2) jm) 10 (T.2 0 2) (T.1 7 jm)) 11 (T.2 0 2) xa) 12 (T.2 0 2) 0) 3 (T.2 2 jm) ((T.1 3 (T.2 2 jm)) - xa)) o ad) := X.eq (st_17_2 _ _ (by omega))
              refine lv_aload_n hx hb dX8_spend_196 rfl (lv_at hl 3 rfl) ?_
              refine lv_dup hx hb dX8_spend_197 rfl ?_
              refine k_get (index := 102) (j := 15) (ad := ad) (k := 16) (i := 0) Z X ct_16 inlX8 rfl (by decide) (inU_12 _ (List.mem_of_getElem? (i := 17) rfl)) (fun _ h => h) (v := .int (nI (T.2 0 2))) rfl dX8_spend_198 ?_
              refine lv_iconst (v := 1) hx hb dX8_spend_201 (by decide) ?_
              refine lv_iadd hx hb dX8_spend_202 ?_
              refine lv_topi (fun x_202 e_202 => ?_)
              obtain rfl : x_202 = nI (T.2 0 2 + 1) := e_202.trans (nI_1 _)
              refine k_put (index := 102) (j := 15) (k := 16) (i := 0) Z X ct_16 inlX8 tyX8_ok nmX8 rfl (by decide) (inU_12 _ (List.mem_of_getElem? (i := 17) rfl)) (fun _ h => h) rfl (Nat.le_of_ble_eq_true rfl) rfl rfl dX8_spend_203 (fun H locs X => ?_)
              have X : kX E G s H locs ad (cto G S (sN (sI (sI (sI (sI (sN (sI T 24 0 0)  3 (T.2 0 2) jm) 10 (T.2 0 2) (T.1 7 jm)) 11 (T.2 0 2) xa) 12 (T.2 0 2) 0) 3 (T.2 2 jm) ((T.1 3 (T.2 2 jm)) - xa)) 0 2 (T.2 0 2 + 1)) o ad) := X.eq (st_spends _)
              refine lv_aload_n hx hb dX8_spend_206 rfl (lv_at hl 3 rfl) ?_
              refine k_get (index := 102) (j := 15) (ad := ad) (k := 16) (i := 0) Z X ct_16 inlX8 rfl (by decide) (inU_12 _ (List.mem_of_getElem? (i := 17) rfl)) (fun _ h => h) (v := .int (nI (T.2 0 2 + 1))) rfl dX8_spend_207 ?_
              refine lv_iconst (v := 1) hx hb dX8_spend_210 (by decide) ?_
              refine lv_isub hx hb dX8_spend_211 ?_
              refine lv_topi (fun x_211 e_211 => ?_)
              obtain rfl : x_211 = nI (T.2 0 2) := e_211.trans (nI_pred _)
              have hk : cSpend T (kdT T) (nI ju) (nI jm) xa = 0 := by rw [cSpend, if_neg (by rw [c_102]; decide), if_neg (by rw [c_111]; decide), if_neg (by rw [c_120]; decide)]
              exact k_iret Z X hr hlocks rfl (Nat.le_of_ble_eq_true rfl) (Nat.le_of_ble_eq_true rfl) dX8_spend_212 ⟨fun _ => rfl, rfl, (congrArg (fun z => cto G S z o ad) (show (sN (sI (sI (sI (sI (sN (sI T 24 0 0)  3 (T.2 0 2) jm) 10 (T.2 0 2) (T.1 7 jm)) 11 (T.2 0 2) xa) 12 (T.2 0 2) 0) 3 (T.2 2 jm) ((T.1 3 (T.2 2 jm)) - xa)) 0 2 (T.2 0 2 + 1)) = oSpend (sI T 24 0 0) (nI jm) xa from by simp only [oSpend, hcm]; rfl)).trans (by rw [if_pos hk])⟩
            · exact absurd c_131 (by decide)
        · have c_111 : (inR xa 1 1000000) = false := bI_0 c_111
          refine lv_iconst (v := 2) hx hb dX8_spend_114 (by decide) ?_
          refine lv_goto (tgt := 128) hx hb dX8_spend_115 (by decide) ?_
          refine k_Ri X (k_runV (As := [.int 2]) (rest := []) Z X (c_X8_fails l E G S T o ad 2) (k_cwV 1 Z.1.2.2.2.2 (inU_9 _ (List.mem_of_getElem? (i := 2) rfl)) (inU_9 _ (List.mem_of_getElem? (i := 3) rfl)) (inU_9 _ (List.mem_of_getElem? (i := 4) rfl)) (inU_1 _ (List.mem_of_getElem? (i := 5) rfl)) (inU_9 _ (List.mem_of_getElem? (i := 5) rfl)) rfl rfl (by decide +kernel) ⟨Nat.le_of_ble_eq_true rfl, Nat.le_of_ble_eq_true rfl⟩) (k_recv Z X ct_16 rfl) rfl hl.1 rfl (Nat.le_of_ble_eq_true rfl) dX8_spend_128 ⟨Nat.le_of_ble_eq_true rfl, Nat.le_of_ble_eq_true rfl⟩) (fun r_128 ad1 ct1 H locs hp X => ?_)
          obtain ⟨rfl, rfl, rfl⟩ := hp
          refine lv_topi (fun x_128 e_128 => ?_)
          obtain rfl : x_128 = 1 := e_128.trans (by decide)
          refine lv_if_eq (tgt := 136) hx hb dX8_spend_131 (by decide) (fun c_131 => ?_) (fun c_131 => ?_)
          · exact absurd c_131 (by decide)
          · refine lv_iconst (v := 0) hx hb dX8_spend_134 (by decide) ?_
            have hk : cSpend T (kdT T) xu xm xa = 2 := by rw [cSpend, if_neg (by rw [c_102]; decide), if_pos c_111]
            exact k_iret Z X hr hlocks rfl (Nat.le_of_ble_eq_true rfl) (Nat.le_of_ble_eq_true rfl) dX8_spend_135 ⟨fun h => absurd (hk.symm.trans h) (by decide), rfl, by rw [hk, if_neg (by decide)]⟩
      · have c_102 : (inB xu (T.2 0 0) && inB xm (T.2 0 1)) = false := bI_0 c_102
        refine lv_iconst (v := 1) hx hb dX8_spend_105 (by decide) ?_
        refine lv_goto (tgt := 128) hx hb dX8_spend_106 (by decide) ?_
        refine k_Ri X (k_runV (As := [.int 1]) (rest := []) Z X (c_X8_fails l E G S T o ad 1) (k_cwV 1 Z.1.2.2.2.2 (inU_9 _ (List.mem_of_getElem? (i := 2) rfl)) (inU_9 _ (List.mem_of_getElem? (i := 3) rfl)) (inU_9 _ (List.mem_of_getElem? (i := 4) rfl)) (inU_1 _ (List.mem_of_getElem? (i := 5) rfl)) (inU_9 _ (List.mem_of_getElem? (i := 5) rfl)) rfl rfl (by decide +kernel) ⟨Nat.le_of_ble_eq_true rfl, Nat.le_of_ble_eq_true rfl⟩) (k_recv Z X ct_16 rfl) rfl hl.1 rfl (Nat.le_of_ble_eq_true rfl) dX8_spend_128 ⟨Nat.le_of_ble_eq_true rfl, Nat.le_of_ble_eq_true rfl⟩) (fun r_128 ad1 ct1 H locs hp X => ?_)
        obtain ⟨rfl, rfl, rfl⟩ := hp
        refine lv_topi (fun x_128 e_128 => ?_)
        obtain rfl : x_128 = 1 := e_128.trans (by decide)
        refine lv_if_eq (tgt := 136) hx hb dX8_spend_131 (by decide) (fun c_131 => ?_) (fun c_131 => ?_)
        · exact absurd c_131 (by decide)
        · refine lv_iconst (v := 0) hx hb dX8_spend_134 (by decide) ?_
          have hk : cSpend T (kdT T) xu xm xa = 1 := by rw [cSpend, if_pos c_102]
          exact k_iret Z X hr hlocks rfl (Nat.le_of_ble_eq_true rfl) (Nat.le_of_ble_eq_true rfl) dX8_spend_135 ⟨fun h => absurd (hk.symm.trans h) (by decide), rfl, by rw [hk, if_neg (by decide)]⟩
    refine lv_iload hx hb dX8_spend_32 (lv_at hl 1 rfl) ?_
    refine lv_if_eq (tgt := 96) hx hb dX8_spend_34 (by decide) (fun c_34 => ?_) (fun c_34 => ?_)
    · have c_34 : (inB xu (T.2 0 0) && inB xm (T.2 0 1)) = false := bI_0 c_34
      refine lv_iconst (v := 0) hx hb dX8_spend_96 (by decide) ?_
      exact W.eq (congrArg (fun z => F0 m 97 ls (.int z :: [])) (bI_f (by simp [c_34]))) (M_97 H locs X)
    · have c_34 : (inB xu (T.2 0 0) && inB xm (T.2 0 1)) = true := bI_1 c_34
      have q_34 := c_34
      simp only [Bool.and_eq_true] at q_34
      obtain ⟨q_u, q_m⟩ := q_34
      obtain ⟨ju, hju, hxu⟩ := inB_of q_u (by omega)
      subst hxu
      have hcu : cl (nI ju) = ju := nI_clamp (by omega)
      obtain ⟨jm, hjm, hxm⟩ := inB_of q_m (by omega)
      subst hxm
      have hcm : cl (nI jm) = jm := nI_clamp (by omega)
      have h5m := hT5 _ hjm
      refine lv_iload hx hb dX8_spend_37 (lv_at hl 0 rfl) ?_
      refine lv_if_eq (tgt := 96) hx hb dX8_spend_39 (by decide) (fun c_39 => ?_) (fun c_39 => ?_)
      · have c_39 : (inR xa 1 1000000) = false := bI_0 c_39
        refine lv_iconst (v := 0) hx hb dX8_spend_96 (by decide) ?_
        exact W.eq (congrArg (fun z => F0 m 97 ls (.int z :: [])) (bI_f (by simp [q_u, hcu, q_m, hcm, c_34, c_39]))) (M_97 H locs X)
      · have c_39 : (inR xa 1 1000000) = true := bI_1 c_39
        refine lv_aload_n hx hb dX8_spend_42 rfl (lv_at hl 2 rfl) ?_
        refine lv_iload_n hx hb dX8_spend_43 rfl (lv_at hl 3 rfl) ?_
        refine k_Ri X (k_runV (As := [.int (nI ju)]) (rest := []) Z X (c_X8_isGone l E G S T o ad ju (by omega)) (k_cwV 1 Z.1.2.2.2.2 (inU_13 _ (List.mem_of_getElem? (i := 2) rfl)) (inU_13 _ (List.mem_of_getElem? (i := 3) rfl)) (inU_13 _ (List.mem_of_getElem? (i := 4) rfl)) (inU_1 _ (List.mem_of_getElem? (i := 5) rfl)) (inU_13 _ (List.mem_of_getElem? (i := 5) rfl)) rfl rfl (by decide +kernel) ⟨Nat.le_of_ble_eq_true rfl, Nat.le_of_ble_eq_true rfl⟩) (k_recv Z X ct_16 rfl) rfl hl.1 rfl (Nat.le_of_ble_eq_true rfl) dX8_spend_44 ⟨Nat.le_of_ble_eq_true rfl, Nat.le_of_ble_eq_true rfl⟩) (fun r_44 ad1 ct1 H locs hp X => ?_)
        obtain ⟨rfl, rfl, rfl⟩ := hp
        refine lv_if_ne (tgt := 96) hx hb dX8_spend_47 (by decide) (fun c_47 => ?_) (fun c_47 => ?_)
        · have c_47 : (gone T ju) = true := bI_1 c_47
          refine lv_iconst (v := 0) hx hb dX8_spend_96 (by decide) ?_
          exact W.eq (congrArg (fun z => F0 m 97 ls (.int z :: [])) (bI_f (by simp [q_u, hcu, q_m, hcm, c_34, c_39, c_47]))) (M_97 H locs X)
        · have c_47 : (gone T ju) = false := bI_0 c_47
          refine lv_aload_n hx hb dX8_spend_50 rfl (lv_at hl 2 rfl) ?_
          refine k_get (index := 38) (j := 12) (ad := ad) (k := 16) (i := 0) Z X ct_16 inlX8 rfl (by decide) (inU_6 _ (List.mem_of_getElem? (i := 16) rfl)) (fun _ h => h) (v := .ref (ad 17 9)) rfl dX8_spend_51 ?_
          refine lv_iload_n hx hb dX8_spend_54 rfl (lv_at hl 4 rfl) ?_
          refine k_zld (ad := ad) (k := 17) (i := 9) Z X ct_17_9 (vp_in_nI (by first | assumption | omega) (by decide)) dX8_spend_55 ?_
          refine lv_topi (fun x_55 e_55 => ?_)
          obtain rfl : x_55 = T.1 8 jm := e_55.trans (by first | (simp only [nI_clamp (show jm < 2 ^ 31 by omega)]; done) | (simp only [nI_clamp (show jm < 2 ^ 31 by omega)]; rfl) | (simp only [nI_clamp (show jm < 2 ^ 31 by omega)]; simp [sI, sN]; done))
          refine lv_if_ne (tgt := 96) hx hb dX8_spend_56 (by decide) (fun c_56 => ?_) (fun c_56 => ?_)
          · refine lv_iconst (v := 0) hx hb dX8_spend_96 (by decide) ?_
            exact W.eq (congrArg (fun z => F0 m 97 ls (.int z :: [])) (bI_f (by simp [q_u, hcu, q_m, hcm, c_34, c_39, c_47, c_56]))) (M_97 H locs X)
          · refine lv_aload_n hx hb dX8_spend_59 rfl (lv_at hl 2 rfl) ?_
            refine k_get (index := 102) (j := 15) (ad := ad) (k := 16) (i := 0) Z X ct_16 inlX8 rfl (by decide) (inU_12 _ (List.mem_of_getElem? (i := 17) rfl)) (fun _ h => h) (v := .int (nI (T.2 0 2))) rfl dX8_spend_60 ?_
            refine lv_bipush (v := 60) hx hb dX8_spend_63 (by decide) ?_
            refine lv_icmp_ge (tgt := 96) hx hb dX8_spend_65 (by decide) (fun c_65 => ?_) (fun c_65 => ?_)
            · have c_65 : 60 ≤ (T.2 0 2) := (nI_leI (a := 60) (b := (T.2 0 2)) (by decide) (by omega)).mp c_65
              have c_65 : ¬ (T.2 0 2) < 60 := by omega
              refine lv_iconst (v := 0) hx hb dX8_spend_96 (by decide) ?_
              exact W.eq (congrArg (fun z => F0 m 97 ls (.int z :: [])) (bI_f (by simp [q_u, hcu, q_m, hcm, c_34, c_39, c_47, c_56, c_65]))) (M_97 H locs X)
            · have c_65 : ¬ 60 ≤ (T.2 0 2) := fun h => c_65 ((nI_leI (a := 60) (b := (T.2 0 2)) (by decide) (by omega)).mpr h)
              have c_65 : T.2 0 2 < 60 := by omega
              refine lv_aload_n hx hb dX8_spend_68 rfl (lv_at hl 2 rfl) ?_
              refine lv_iload_n hx hb dX8_spend_69 rfl (lv_at hl 4 rfl) ?_
              refine lv_iload_n hx hb dX8_spend_70 rfl (lv_at hl 5 rfl) ?_
              refine k_Ri X (k_runV (As := [.int (nI jm), .int xa]) (rest := []) Z X (c_X8_approves l E G S T o ad jm xa (by omega) hT1 (by omega)) (k_cwV 2 Z.1.2.2.2.2 (inU_12 _ (List.mem_of_getElem? (i := 18) rfl)) (inU_12 _ (List.mem_of_getElem? (i := 19) rfl)) (inU_12 _ (List.mem_of_getElem? (i := 20) rfl)) (inU_1 _ (List.mem_of_getElem? (i := 5) rfl)) (inU_12 _ (List.mem_of_getElem? (i := 21) rfl)) rfl rfl (by decide +kernel) ⟨Nat.le_of_ble_eq_true rfl, Nat.le_of_ble_eq_true rfl⟩) (k_recv Z X ct_16 rfl) rfl hl.1 rfl (Nat.le_of_ble_eq_true rfl) dX8_spend_71 ⟨Nat.le_of_ble_eq_true rfl, Nat.le_of_ble_eq_true rfl⟩) (fun r_71 ad1 ct1 H locs hp X => ?_)
              obtain ⟨rfl, rfl, rfl⟩ := hp
              refine lv_if_eq (tgt := 96) hx hb dX8_spend_74 (by decide) (fun c_74 => ?_) (fun c_74 => ?_)
              · have c_74 : (appr T (kdT T jm) (T.2 1 jm) (T.2 0 0) xa) = false := bI_0 c_74
                refine lv_iconst (v := 0) hx hb dX8_spend_96 (by decide) ?_
                exact W.eq (congrArg (fun z => F0 m 97 ls (.int z :: [])) (bI_f (by simp [q_u, hcu, q_m, hcm, c_34, c_39, c_47, c_56, c_65, c_74]))) (M_97 H locs X)
              · have c_74 : (appr T (kdT T jm) (T.2 1 jm) (T.2 0 0) xa) = true := bI_1 c_74
                refine lv_aload_n hx hb dX8_spend_77 rfl (lv_at hl 2 rfl) ?_
                refine k_get (index := 16) (j := 4) (ad := ad) (k := 16) (i := 0) Z X ct_16 inlX8 rfl (by decide) (inU_6 _ (List.mem_of_getElem? (i := 8) rfl)) (fun _ h => h) (v := .ref (ad 17 2)) rfl dX8_spend_78 ?_
                refine lv_aload_n hx hb dX8_spend_81 rfl (lv_at hl 2 rfl) ?_
                refine k_get (index := 26) (j := 8) (ad := ad) (k := 16) (i := 0) Z X ct_16 inlX8 rfl (by decide) (inU_6 _ (List.mem_of_getElem? (i := 12) rfl)) (fun _ h => h) (v := .ref (ad 17 5)) rfl dX8_spend_82 ?_
                refine lv_iload_n hx hb dX8_spend_85 rfl (lv_at hl 4 rfl) ?_
                refine k_ild (ad := ad) (k := 17) (i := 5) Z X ct_17_5 (vp_in_nI (by first | assumption | omega) (by decide)) dX8_spend_86 ?_
                refine lv_topi (fun x_86 e_86 => ?_)
                obtain rfl : x_86 = nI (T.2 2 jm) := e_86.trans (by first | (simp only [nI_clamp (show jm < 2 ^ 31 by omega)]; done) | (simp only [nI_clamp (show jm < 2 ^ 31 by omega)]; rfl) | (simp only [nI_clamp (show jm < 2 ^ 31 by omega)]; simp [sI, sN]; done))
                refine k_ild (ad := ad) (k := 17) (i := 2) Z X ct_17_2 (vp_in_nI (by first | assumption | omega) (by decide)) dX8_spend_87 ?_
                refine lv_topi (fun x_87 e_87 => ?_)
                obtain rfl : x_87 = T.1 3 (T.2 2 jm) := e_87.trans (by first | (simp only [nI_clamp (show T.2 2 jm < 2 ^ 31 by omega)]; done) | (simp only [nI_clamp (show T.2 2 jm < 2 ^ 31 by omega)]; rfl) | (simp only [nI_clamp (show T.2 2 jm < 2 ^ 31 by omega)]; simp [sI, sN]; done))
                refine lv_iload_n hx hb dX8_spend_88 rfl (lv_at hl 5 rfl) ?_
                refine lv_icmp_lt (tgt := 96) hx hb dX8_spend_89 (by decide) (fun c_89 => ?_) (fun c_89 => ?_)
                · refine lv_iconst (v := 0) hx hb dX8_spend_96 (by decide) ?_
                  exact W.eq (congrArg (fun z => F0 m 97 ls (.int z :: [])) (bI_f (by simp [q_u, hcu, q_m, hcm, c_34, c_39, c_47, c_56, c_65, c_74, c_89]))) (M_97 H locs X)
                · refine lv_iconst (v := 1) hx hb dX8_spend_92 (by decide) ?_
                  refine lv_goto (tgt := 97) hx hb dX8_spend_93 (by decide) ?_
                  exact W.eq (congrArg (fun z => F0 m 97 ls (.int z :: [])) (bI_t (by simp [q_u, hcu, q_m, hcm, c_34, c_39, c_47, c_56, c_65, c_74, c_89]))) (M_97 H locs X)
  refine lv_aload_n hx hb dX8_spend_0 rfl (lv_at hl 0 rfl) ?_
  refine lv_iload_n hx hb dX8_spend_1 rfl (lv_at hl 1 rfl) ?_
  refine k_Ri X (k_runV (As := [.int xu]) (rest := []) Z X (c_X8_isUser l E G S T o ad xu (by omega)) (k_cwV 1 Z.1.2.2.2.2 (inU_12 _ (List.mem_of_getElem? (i := 9) rfl)) (inU_12 _ (List.mem_of_getElem? (i := 10) rfl)) (inU_12 _ (List.mem_of_getElem? (i := 11) rfl)) (inU_1 _ (List.mem_of_getElem? (i := 5) rfl)) (inU_12 _ (List.mem_of_getElem? (i := 12) rfl)) rfl rfl (by decide +kernel) ⟨Nat.le_of_ble_eq_true rfl, Nat.le_of_ble_eq_true rfl⟩) (k_recv Z X ct_16 rfl) rfl hl.1 rfl (Nat.le_of_ble_eq_true rfl) dX8_spend_2 ⟨Nat.le_of_ble_eq_true rfl, Nat.le_of_ble_eq_true rfl⟩) (fun r_2 ad1 ct1 H locs hp X => ?_)
  obtain ⟨rfl, rfl, rfl⟩ := hp
  refine lv_if_eq (tgt := 20) hx hb dX8_spend_5 (by decide) (fun c_5 => ?_) (fun c_5 => ?_)
  · have c_5 : (inB xu (T.2 0 0)) = false := bI_0 c_5
    refine lv_iconst (v := 0) hx hb dX8_spend_20 (by decide) ?_
    exact W.eq (congrArg (fun z => F0 m 21 ls (.int z :: [])) (bI_f (by simp [c_5]))) (M_21 H locs X)
  · have c_5 : (inB xu (T.2 0 0)) = true := bI_1 c_5
    refine lv_aload_n hx hb dX8_spend_8 rfl (lv_at hl 0 rfl) ?_
    refine lv_iload_n hx hb dX8_spend_9 rfl (lv_at hl 2 rfl) ?_
    refine k_Ri X (k_runV (As := [.int xm]) (rest := []) Z X (c_X8_isMessage l E G S T o ad xm (by omega)) (k_cwV 1 Z.1.2.2.2.2 (inU_16 _ (List.mem_of_getElem? (i := 13) rfl)) (inU_16 _ (List.mem_of_getElem? (i := 14) rfl)) (inU_16 _ (List.mem_of_getElem? (i := 15) rfl)) (inU_1 _ (List.mem_of_getElem? (i := 5) rfl)) (inU_16 _ (List.mem_of_getElem? (i := 16) rfl)) rfl rfl (by decide +kernel) ⟨Nat.le_of_ble_eq_true rfl, Nat.le_of_ble_eq_true rfl⟩) (k_recv Z X ct_16 rfl) rfl hl.1 rfl (Nat.le_of_ble_eq_true rfl) dX8_spend_10 ⟨Nat.le_of_ble_eq_true rfl, Nat.le_of_ble_eq_true rfl⟩) (fun r_10 ad1 ct1 H locs hp X => ?_)
    obtain ⟨rfl, rfl, rfl⟩ := hp
    refine lv_if_eq (tgt := 20) hx hb dX8_spend_13 (by decide) (fun c_13 => ?_) (fun c_13 => ?_)
    · have c_13 : (inB xm (T.2 0 1)) = false := bI_0 c_13
      refine lv_iconst (v := 0) hx hb dX8_spend_20 (by decide) ?_
      exact W.eq (congrArg (fun z => F0 m 21 ls (.int z :: [])) (bI_f (by simp [c_5, c_13]))) (M_21 H locs X)
    · have c_13 : (inB xm (T.2 0 1)) = true := bI_1 c_13
      refine lv_iconst (v := 1) hx hb dX8_spend_16 (by decide) ?_
      refine lv_goto (tgt := 21) hx hb dX8_spend_17 (by decide) ?_
      exact W.eq (congrArg (fun z => F0 m 21 ls (.int z :: [])) (bI_t (by simp [c_5, c_13]))) (M_21 H locs X)
theorem dX8_task_0 : decode cX8_task 0 = .ok (.aload_n 0, 1) := by decide +kernel
theorem dX8_task_1 : decode cX8_task 1 = .ok (.iload_n 1, 1) := by decide +kernel
theorem dX8_task_2 : decode cX8_task 2 = .ok (.invokevirtual 114, 3) := by decide +kernel
theorem dX8_task_5 : decode cX8_task 5 = .ok (.ifCond .eq 23, 3) := by decide +kernel
theorem dX8_task_8 : decode cX8_task 8 = .ok (.aload_n 0, 1) := by decide +kernel
theorem dX8_task_9 : decode cX8_task 9 = .ok (.iload_n 2, 1) := by decide +kernel
theorem dX8_task_10 : decode cX8_task 10 = .ok (.invokevirtual 125, 3) := by decide +kernel
theorem dX8_task_13 : decode cX8_task 13 = .ok (.ifCond .eq 15, 3) := by decide +kernel
theorem dX8_task_16 : decode cX8_task 16 = .ok (.aload_n 0, 1) := by decide +kernel
theorem dX8_task_17 : decode cX8_task 17 = .ok (.iload_n 3, 1) := by decide +kernel
theorem dX8_task_18 : decode cX8_task 18 = .ok (.invokevirtual 114, 3) := by decide +kernel
theorem dX8_task_21 : decode cX8_task 21 = .ok (.ifCond .eq 7, 3) := by decide +kernel
theorem dX8_task_24 : decode cX8_task 24 = .ok (.iconst 1, 1) := by decide +kernel
theorem dX8_task_25 : decode cX8_task 25 = .ok (.goto 4, 3) := by decide +kernel
theorem dX8_task_28 : decode cX8_task 28 = .ok (.iconst 0, 1) := by decide +kernel
theorem dX8_task_29 : decode cX8_task 29 = .ok (.istore 5, 2) := by decide +kernel
theorem dX8_task_31 : decode cX8_task 31 = .ok (.iload 4, 2) := by decide +kernel
theorem dX8_task_33 : decode cX8_task 33 = .ok (.iconst 0, 1) := by decide +kernel
theorem dX8_task_34 : decode cX8_task 34 = .ok (.sipush 10000, 3) := by decide +kernel
theorem dX8_task_37 : decode cX8_task 37 = .ok (.invokestatic 84, 3) := by decide +kernel
theorem dX8_task_40 : decode cX8_task 40 = .ok (.istore 6, 2) := by decide +kernel
theorem dX8_task_42 : decode cX8_task 42 = .ok (.aload_n 0, 1) := by decide +kernel
theorem dX8_task_43 : decode cX8_task 43 = .ok (.iload 5, 2) := by decide +kernel
theorem dX8_task_45 : decode cX8_task 45 = .ok (.ifCond .ne 7, 3) := by decide +kernel
theorem dX8_task_48 : decode cX8_task 48 = .ok (.iconst 1, 1) := by decide +kernel
theorem dX8_task_49 : decode cX8_task 49 = .ok (.goto 43, 3) := by decide +kernel
theorem dX8_task_52 : decode cX8_task 52 = .ok (.iload 6, 2) := by decide +kernel
theorem dX8_task_54 : decode cX8_task 54 = .ok (.ifCond .ne 7, 3) := by decide +kernel
theorem dX8_task_57 : decode cX8_task 57 = .ok (.iconst 2, 1) := by decide +kernel
theorem dX8_task_58 : decode cX8_task 58 = .ok (.goto 34, 3) := by decide +kernel
theorem dX8_task_61 : decode cX8_task 61 = .ok (.aload_n 0, 1) := by decide +kernel
theorem dX8_task_62 : decode cX8_task 62 = .ok (.iload_n 1, 1) := by decide +kernel
theorem dX8_task_63 : decode cX8_task 63 = .ok (.invokevirtual 94, 3) := by decide +kernel
theorem dX8_task_66 : decode cX8_task 66 = .ok (.ifCond .ne 21, 3) := by decide +kernel
theorem dX8_task_69 : decode cX8_task 69 = .ok (.aload_n 0, 1) := by decide +kernel
theorem dX8_task_70 : decode cX8_task 70 = .ok (.getfield 38, 3) := by decide +kernel
theorem dX8_task_73 : decode cX8_task 73 = .ok (.iload_n 2, 1) := by decide +kernel
theorem dX8_task_74 : decode cX8_task 74 = .ok (.baload, 1) := by decide +kernel
theorem dX8_task_75 : decode cX8_task 75 = .ok (.ifCond .ne 12, 3) := by decide +kernel
theorem dX8_task_78 : decode cX8_task 78 = .ok (.aload_n 0, 1) := by decide +kernel
theorem dX8_task_79 : decode cX8_task 79 = .ok (.getfield 128, 3) := by decide +kernel
theorem dX8_task_82 : decode cX8_task 82 = .ok (.bipush 60, 2) := by decide +kernel
theorem dX8_task_84 : decode cX8_task 84 = .ok (.if_icmp .ne 7, 3) := by decide +kernel
theorem dX8_task_87 : decode cX8_task 87 = .ok (.iconst 3, 1) := by decide +kernel
theorem dX8_task_88 : decode cX8_task 88 = .ok (.goto 4, 3) := by decide +kernel
theorem dX8_task_91 : decode cX8_task 91 = .ok (.iconst 0, 1) := by decide +kernel
theorem dX8_task_92 : decode cX8_task 92 = .ok (.invokevirtual 111, 3) := by decide +kernel
theorem dX8_task_95 : decode cX8_task 95 = .ok (.ifCond .eq 5, 3) := by decide +kernel
theorem dX8_task_98 : decode cX8_task 98 = .ok (.iconst 0, 1) := by decide +kernel
theorem dX8_task_99 : decode cX8_task 99 = .ok (.ireturn, 1) := by decide +kernel
theorem dX8_task_100 : decode cX8_task 100 = .ok (.aload_n 0, 1) := by decide +kernel
theorem dX8_task_101 : decode cX8_task 101 = .ok (.getfield 59, 3) := by decide +kernel
theorem dX8_task_104 : decode cX8_task 104 = .ok (.aload_n 0, 1) := by decide +kernel
theorem dX8_task_105 : decode cX8_task 105 = .ok (.getfield 128, 3) := by decide +kernel
theorem dX8_task_108 : decode cX8_task 108 = .ok (.iload_n 2, 1) := by decide +kernel
theorem dX8_task_109 : decode cX8_task 109 = .ok (.iastore, 1) := by decide +kernel
theorem dX8_task_110 : decode cX8_task 110 = .ok (.aload_n 0, 1) := by decide +kernel
theorem dX8_task_111 : decode cX8_task 111 = .ok (.getfield 62, 3) := by decide +kernel
theorem dX8_task_114 : decode cX8_task 114 = .ok (.aload_n 0, 1) := by decide +kernel
theorem dX8_task_115 : decode cX8_task 115 = .ok (.getfield 128, 3) := by decide +kernel
theorem dX8_task_118 : decode cX8_task 118 = .ok (.aload_n 0, 1) := by decide +kernel
theorem dX8_task_119 : decode cX8_task 119 = .ok (.getfield 32, 3) := by decide +kernel
theorem dX8_task_122 : decode cX8_task 122 = .ok (.iload_n 2, 1) := by decide +kernel
theorem dX8_task_123 : decode cX8_task 123 = .ok (.iaload, 1) := by decide +kernel
theorem dX8_task_124 : decode cX8_task 124 = .ok (.iastore, 1) := by decide +kernel
theorem dX8_task_125 : decode cX8_task 125 = .ok (.aload_n 0, 1) := by decide +kernel
theorem dX8_task_126 : decode cX8_task 126 = .ok (.getfield 65, 3) := by decide +kernel
theorem dX8_task_129 : decode cX8_task 129 = .ok (.aload_n 0, 1) := by decide +kernel
theorem dX8_task_130 : decode cX8_task 130 = .ok (.getfield 128, 3) := by decide +kernel
theorem dX8_task_133 : decode cX8_task 133 = .ok (.iload_n 3, 1) := by decide +kernel
theorem dX8_task_134 : decode cX8_task 134 = .ok (.iastore, 1) := by decide +kernel
theorem dX8_task_135 : decode cX8_task 135 = .ok (.aload_n 0, 1) := by decide +kernel
theorem dX8_task_136 : decode cX8_task 136 = .ok (.getfield 68, 3) := by decide +kernel
theorem dX8_task_139 : decode cX8_task 139 = .ok (.aload_n 0, 1) := by decide +kernel
theorem dX8_task_140 : decode cX8_task 140 = .ok (.getfield 128, 3) := by decide +kernel
theorem dX8_task_143 : decode cX8_task 143 = .ok (.aload_n 0, 1) := by decide +kernel
theorem dX8_task_144 : decode cX8_task 144 = .ok (.getfield 88, 3) := by decide +kernel
theorem dX8_task_147 : decode cX8_task 147 = .ok (.iload 4, 2) := by decide +kernel
theorem dX8_task_149 : decode cX8_task 149 = .ok (.iadd, 1) := by decide +kernel
theorem dX8_task_150 : decode cX8_task 150 = .ok (.iastore, 1) := by decide +kernel
theorem dX8_task_151 : decode cX8_task 151 = .ok (.aload_n 0, 1) := by decide +kernel
theorem dX8_task_152 : decode cX8_task 152 = .ok (.getfield 71, 3) := by decide +kernel
theorem dX8_task_155 : decode cX8_task 155 = .ok (.aload_n 0, 1) := by decide +kernel
theorem dX8_task_156 : decode cX8_task 156 = .ok (.getfield 128, 3) := by decide +kernel
theorem dX8_task_159 : decode cX8_task 159 = .ok (.iconst 0, 1) := by decide +kernel
theorem dX8_task_160 : decode cX8_task 160 = .ok (.iastore, 1) := by decide +kernel
theorem dX8_task_161 : decode cX8_task 161 = .ok (.aload_n 0, 1) := by decide +kernel
theorem dX8_task_162 : decode cX8_task 162 = .ok (.dup, 1) := by decide +kernel
theorem dX8_task_163 : decode cX8_task 163 = .ok (.getfield 128, 3) := by decide +kernel
theorem dX8_task_166 : decode cX8_task 166 = .ok (.iconst 1, 1) := by decide +kernel
theorem dX8_task_167 : decode cX8_task 167 = .ok (.iadd, 1) := by decide +kernel
theorem dX8_task_168 : decode cX8_task 168 = .ok (.putfield 128, 3) := by decide +kernel
theorem dX8_task_171 : decode cX8_task 171 = .ok (.aload_n 0, 1) := by decide +kernel
theorem dX8_task_172 : decode cX8_task 172 = .ok (.getfield 128, 3) := by decide +kernel
theorem dX8_task_175 : decode cX8_task 175 = .ok (.iconst 1, 1) := by decide +kernel
theorem dX8_task_176 : decode cX8_task 176 = .ok (.isub, 1) := by decide +kernel
theorem dX8_task_177 : decode cX8_task 177 = .ok (.ireturn, 1) := by decide +kernel
set_option maxHeartbeats 4000000 in
set_option maxRecDepth 100000 in
theorem c_X8_task (l : Launch) (E : State) (G : kG) (S T : kSt) (o : Int64) (ad : kAd) (xu xm xw xh : Int32) (hT : okN T) : Met l yX8_task (.code yX8_task cX8_task 7 (some .int) :: wsL_law) ({ frames := 4, cells := 0, slots := 0, locals := 90 } : Room) (va_Pc [.ref (ad 16 0), .int xu, .int xm, .int xw, .int xh] (kPre E G ad (cto G S T o ad))) (kQi E G (fun r ad1 ct1 => (cTask T xu xm xw xh = 0 → r = nI (T.2 0 3)) ∧ ad = ad1 ∧ ct1 = cto G S (if cTask T xu xm xw xh = 0 then oTask (sI T 24 0 0) xm xw xh else sI T 24 0 (cTask T xu xm xw xh)) o ad)) 0 0 (kB E.heap.size) := by
  refine Met.ofW (cc := cX8_task) (maxL := 7) (ret := (some .int)) (by decide) rfl ?_
  intro p e s m args below meth c s₁ B hml hv
  obtain ⟨rfl, hM, hK, hW0⟩ := hv
  have hlocks := B.notSynchronized
  have hr := B.returns
  have Z : kZ p m c cX8_task 7 s _ wsL_law RX8 E G := ⟨⟨B.exec, B.bytes, hml, findClass_of_methodNamed B.named, fun w h => atoms_spec (ws := .code yX8_task cX8_task 7 (some .int) :: wsL_law) B.pre w (List.mem_cons_of_mem _ h)⟩, hM, hK⟩
  have hx := Z.1.1
  have hb := Z.1.2.1
  have X := kX.of hW0
  have hl := lv_entry ([.ref (ad 16 0), .int xu, .int xm, .int xw, .int xh]) (n := 7) (Nat.le_of_ble_eq_true rfl)
  rw [lg_entry_eq]
  generalize (lg_sl ([.ref (ad 16 0), .int xu, .int xm, .int xw, .int xh]) ++ List.replicate (7 - (lg_sl ([.ref (ad 16 0), .int xu, .int xm, .int xw, .int xh])).length) Slot.unset).toArray = ls at hl ⊢
  have hl : lv_has ls 7 [(0, .ref (ad 16 0)), (1, .int xu), (2, .int xm), (3, .int xw), (4, .int xh)] := hl
  have hT0 := hT
  obtain ⟨hT1, hT2, hT3, hT4, hT5, hT6, hT7⟩ := hT0
  have M_29 : ∀ (H : Heap) (locs : List Loc), kX E G s H locs ad (cto G S T o ad) → W p l e (headSpec (Cond.code yX8_task cX8_task 7 (some .int) :: wsL_law) ({ frames := 4, cells := 0, slots := 0, locals := 90 } : Room)).room s m ([.ref (ad 16 0), .int xu, .int xm, .int xw, .int xh] : List Value).toArray below meth c H locs 0 0 (MQ below (kQi E G (fun r ad1 ct1 => (cTask T xu xm xw xh = 0 → r = nI (T.2 0 3)) ∧ ad = ad1 ∧ ct1 = cto G S (if cTask T xu xm xw xh = 0 then oTask (sI T 24 0 0) xm xw xh else sI T 24 0 (cTask T xu xm xw xh)) o ad)) ([.ref (ad 16 0), .int xu, .int xm, .int xw, .int xh] : List Value).toArray s 0 0 (kB E.heap.size)) (F0 m 29 ls [.int (bI (inB xu (T.2 0 0) && (inB xm (T.2 0 1) && inB xw (T.2 0 0))))]) := by
    intro H locs X
    refine lv_istore (lv' := [(5, .int (bI (inB xu (T.2 0 0) && (inB xm (T.2 0 1) && inB xw (T.2 0 0))))), (0, .ref (ad 16 0)), (1, .int xu), (2, .int xm), (3, .int xw), (4, .int xh)]) hx hb dX8_task_29 hl (by decide) rfl (fun ls hl => ?_)
    refine lv_iload hx hb dX8_task_31 (lv_at hl 5 rfl) ?_
    refine lv_iconst (v := 0) hx hb dX8_task_33 (by decide) ?_
    refine lv_sipush (v := 10000) hx hb dX8_task_34 (by decide) ?_
    refine k_Ri X (k_runS (As := [.int xh, .int 0, .int 10000]) (rest := []) Z X (c_X8_isIn l E G S T o ad xh 0 10000) (k_cwS 3 Z.1.2.2.2.2 (inU_8 _ (List.mem_of_getElem? (i := 23) rfl)) (inU_9 _ (List.mem_of_getElem? (i := 0) rfl)) (inU_1 _ (List.mem_of_getElem? (i := 5) rfl)) (inU_9 _ (List.mem_of_getElem? (i := 1) rfl)) rfl rfl (by decide +kernel) ⟨Nat.le_of_ble_eq_true rfl, Nat.le_of_ble_eq_true rfl⟩) rfl hl.1 rfl (Nat.le_of_ble_eq_true rfl) dX8_task_37 ⟨Nat.le_of_ble_eq_true rfl, Nat.le_of_ble_eq_true rfl⟩) (fun r_37 ad1 ct1 H locs hp X => ?_)
    obtain ⟨rfl, rfl, rfl⟩ := hp
    refine lv_istore (lv' := [(6, .int (bI (inR xh 0 10000))), (5, .int (bI (inB xu (T.2 0 0) && (inB xm (T.2 0 1) && inB xw (T.2 0 0))))), (0, .ref (ad 16 0)), (1, .int xu), (2, .int xm), (3, .int xw), (4, .int xh)]) hx hb dX8_task_40 hl (by decide) rfl (fun ls hl => ?_)
    refine lv_aload_n hx hb dX8_task_42 rfl (lv_at hl 2 rfl) ?_
    refine lv_iload hx hb dX8_task_43 (lv_at hl 1 rfl) ?_
    refine lv_if_ne (tgt := 52) hx hb dX8_task_45 (by decide) (fun c_45 => ?_) (fun c_45 => ?_)
    · have c_45 : (inB xu (T.2 0 0) && (inB xm (T.2 0 1) && inB xw (T.2 0 0))) = true := bI_1 c_45
      have q_45 := c_45
      simp only [Bool.and_eq_true] at q_45
      obtain ⟨q_u, q_m, q_w⟩ := q_45
      obtain ⟨ju, hju, hxu⟩ := inB_of q_u (by omega)
      subst hxu
      have hcu : cl (nI ju) = ju := nI_clamp (by omega)
      obtain ⟨jm, hjm, hxm⟩ := inB_of q_m (by omega)
      subst hxm
      have hcm : cl (nI jm) = jm := nI_clamp (by omega)
      obtain ⟨jw, hjw, hxw⟩ := inB_of q_w (by omega)
      subst hxw
      have hcw : cl (nI jw) = jw := nI_clamp (by omega)
      refine lv_iload hx hb dX8_task_52 (lv_at hl 0 rfl) ?_
      refine lv_if_ne (tgt := 61) hx hb dX8_task_54 (by decide) (fun c_54 => ?_) (fun c_54 => ?_)
      · have c_54 : (inR xh 0 10000) = true := bI_1 c_54
        refine lv_aload_n hx hb dX8_task_61 rfl (lv_at hl 2 rfl) ?_
        refine lv_iload_n hx hb dX8_task_62 rfl (lv_at hl 3 rfl) ?_
        refine k_Ri X (k_runV (As := [.int (nI ju)]) (rest := [.ref (ad 16 0)]) Z X (c_X8_isGone l E G S T o ad ju (by omega)) (k_cwV 1 Z.1.2.2.2.2 (inU_13 _ (List.mem_of_getElem? (i := 2) rfl)) (inU_13 _ (List.mem_of_getElem? (i := 3) rfl)) (inU_13 _ (List.mem_of_getElem? (i := 4) rfl)) (inU_1 _ (List.mem_of_getElem? (i := 5) rfl)) (inU_13 _ (List.mem_of_getElem? (i := 5) rfl)) rfl rfl (by decide +kernel) ⟨Nat.le_of_ble_eq_true rfl, Nat.le_of_ble_eq_true rfl⟩) (k_recv Z X ct_16 rfl) rfl hl.1 rfl (Nat.le_of_ble_eq_true rfl) dX8_task_63 ⟨Nat.le_of_ble_eq_true rfl, Nat.le_of_ble_eq_true rfl⟩) (fun r_63 ad1 ct1 H locs hp X => ?_)
        obtain ⟨rfl, rfl, rfl⟩ := hp
        refine lv_if_ne (tgt := 87) hx hb dX8_task_66 (by decide) (fun c_66 => ?_) (fun c_66 => ?_)
        · have c_66 : (gone T ju) = true := bI_1 c_66
          refine lv_iconst (v := 3) hx hb dX8_task_87 (by decide) ?_
          refine lv_goto (tgt := 92) hx hb dX8_task_88 (by decide) ?_
          refine k_Ri X (k_runV (As := [.int 3]) (rest := []) Z X (c_X8_fails l E G S T o ad 3) (k_cwV 1 Z.1.2.2.2.2 (inU_9 _ (List.mem_of_getElem? (i := 2) rfl)) (inU_9 _ (List.mem_of_getElem? (i := 3) rfl)) (inU_9 _ (List.mem_of_getElem? (i := 4) rfl)) (inU_1 _ (List.mem_of_getElem? (i := 5) rfl)) (inU_9 _ (List.mem_of_getElem? (i := 5) rfl)) rfl rfl (by decide +kernel) ⟨Nat.le_of_ble_eq_true rfl, Nat.le_of_ble_eq_true rfl⟩) (k_recv Z X ct_16 rfl) rfl hl.1 rfl (Nat.le_of_ble_eq_true rfl) dX8_task_92 ⟨Nat.le_of_ble_eq_true rfl, Nat.le_of_ble_eq_true rfl⟩) (fun r_92 ad1 ct1 H locs hp X => ?_)
          obtain ⟨rfl, rfl, rfl⟩ := hp
          refine lv_topi (fun x_92 e_92 => ?_)
          obtain rfl : x_92 = 1 := e_92.trans (by decide)
          refine lv_if_eq (tgt := 100) hx hb dX8_task_95 (by decide) (fun c_95 => ?_) (fun c_95 => ?_)
          · exact absurd c_95 (by decide)
          · refine lv_iconst (v := 0) hx hb dX8_task_98 (by decide) ?_
            have hk : cTask T (nI ju) (nI jm) (nI jw) xh = 3 := by rw [cTask, if_neg (by rw [c_45]; decide), if_neg (by rw [c_54]; decide), if_pos (by simp [q_u, hcu, q_m, hcm, q_w, hcw, c_66, c_95])]
            exact k_iret Z X hr hlocks rfl (Nat.le_of_ble_eq_true rfl) (Nat.le_of_ble_eq_true rfl) dX8_task_99 ⟨fun h => absurd (hk.symm.trans h) (by decide), rfl, by rw [hk, if_neg (by decide)]⟩
        · have c_66 : (gone T ju) = false := bI_0 c_66
          refine lv_aload_n hx hb dX8_task_69 rfl (lv_at hl 2 rfl) ?_
          refine k_get (index := 38) (j := 12) (ad := ad) (k := 16) (i := 0) Z X ct_16 inlX8 rfl (by decide) (inU_6 _ (List.mem_of_getElem? (i := 16) rfl)) (fun _ h => h) (v := .ref (ad 17 9)) rfl dX8_task_70 ?_
          refine lv_iload_n hx hb dX8_task_73 rfl (lv_at hl 4 rfl) ?_
          refine k_zld (ad := ad) (k := 17) (i := 9) Z X ct_17_9 (vp_in_nI (by first | assumption | omega) (by decide)) dX8_task_74 ?_
          refine lv_topi (fun x_74 e_74 => ?_)
          obtain rfl : x_74 = T.1 8 jm := e_74.trans (by first | (simp only [nI_clamp (show jm < 2 ^ 31 by omega)]; done) | (simp only [nI_clamp (show jm < 2 ^ 31 by omega)]; rfl) | (simp only [nI_clamp (show jm < 2 ^ 31 by omega)]; simp [sI, sN]; done))
          refine lv_if_ne (tgt := 87) hx hb dX8_task_75 (by decide) (fun c_75 => ?_) (fun c_75 => ?_)
          · refine lv_iconst (v := 3) hx hb dX8_task_87 (by decide) ?_
            refine lv_goto (tgt := 92) hx hb dX8_task_88 (by decide) ?_
            refine k_Ri X (k_runV (As := [.int 3]) (rest := []) Z X (c_X8_fails l E G S T o ad 3) (k_cwV 1 Z.1.2.2.2.2 (inU_9 _ (List.mem_of_getElem? (i := 2) rfl)) (inU_9 _ (List.mem_of_getElem? (i := 3) rfl)) (inU_9 _ (List.mem_of_getElem? (i := 4) rfl)) (inU_1 _ (List.mem_of_getElem? (i := 5) rfl)) (inU_9 _ (List.mem_of_getElem? (i := 5) rfl)) rfl rfl (by decide +kernel) ⟨Nat.le_of_ble_eq_true rfl, Nat.le_of_ble_eq_true rfl⟩) (k_recv Z X ct_16 rfl) rfl hl.1 rfl (Nat.le_of_ble_eq_true rfl) dX8_task_92 ⟨Nat.le_of_ble_eq_true rfl, Nat.le_of_ble_eq_true rfl⟩) (fun r_92 ad1 ct1 H locs hp X => ?_)
            obtain ⟨rfl, rfl, rfl⟩ := hp
            refine lv_topi (fun x_92 e_92 => ?_)
            obtain rfl : x_92 = 1 := e_92.trans (by decide)
            refine lv_if_eq (tgt := 100) hx hb dX8_task_95 (by decide) (fun c_95 => ?_) (fun c_95 => ?_)
            · exact absurd c_95 (by decide)
            · refine lv_iconst (v := 0) hx hb dX8_task_98 (by decide) ?_
              have hk : cTask T (nI ju) (nI jm) (nI jw) xh = 3 := by rw [cTask, if_neg (by rw [c_45]; decide), if_neg (by rw [c_54]; decide), if_pos (by simp [q_u, hcu, q_m, hcm, q_w, hcw, c_66, c_75, c_95])]
              exact k_iret Z X hr hlocks rfl (Nat.le_of_ble_eq_true rfl) (Nat.le_of_ble_eq_true rfl) dX8_task_99 ⟨fun h => absurd (hk.symm.trans h) (by decide), rfl, by rw [hk, if_neg (by decide)]⟩
          · refine lv_aload_n hx hb dX8_task_78 rfl (lv_at hl 2 rfl) ?_
            refine k_get (index := 128) (j := 20) (ad := ad) (k := 16) (i := 0) Z X ct_16 inlX8 rfl (by decide) (inU_18 _ (List.mem_of_getElem? (i := 1) rfl)) (fun _ h => h) (v := .int (nI (T.2 0 3))) rfl dX8_task_79 ?_
            refine lv_bipush (v := 60) hx hb dX8_task_82 (by decide) ?_
            refine lv_icmp_ne (tgt := 91) hx hb dX8_task_84 (by decide) (fun c_84 => ?_) (fun c_84 => ?_)
            · have c_84 : ¬ (T.2 0 3) = 60 := fun h => c_84 ((nI_eq (a := (T.2 0 3)) (b := 60) (by omega) (by decide)).mpr h)
              refine lv_iconst (v := 0) hx hb dX8_task_91 (by decide) ?_
              refine k_Ri X (k_runV (As := [.int 0]) (rest := []) Z X (c_X8_fails l E G S T o ad 0) (k_cwV 1 Z.1.2.2.2.2 (inU_9 _ (List.mem_of_getElem? (i := 2) rfl)) (inU_9 _ (List.mem_of_getElem? (i := 3) rfl)) (inU_9 _ (List.mem_of_getElem? (i := 4) rfl)) (inU_1 _ (List.mem_of_getElem? (i := 5) rfl)) (inU_9 _ (List.mem_of_getElem? (i := 5) rfl)) rfl rfl (by decide +kernel) ⟨Nat.le_of_ble_eq_true rfl, Nat.le_of_ble_eq_true rfl⟩) (k_recv Z X ct_16 rfl) rfl hl.1 rfl (Nat.le_of_ble_eq_true rfl) dX8_task_92 ⟨Nat.le_of_ble_eq_true rfl, Nat.le_of_ble_eq_true rfl⟩) (fun r_92 ad1 ct1 H locs hp X => ?_)
              obtain ⟨rfl, rfl, rfl⟩ := hp
              refine lv_topi (fun x_92 e_92 => ?_)
              obtain rfl : x_92 = 0 := e_92.trans (by decide)
              refine lv_if_eq (tgt := 100) hx hb dX8_task_95 (by decide) (fun c_95 => ?_) (fun c_95 => ?_)
              · have q_n : T.2 0 3 < 60 := by omega
                refine lv_aload_n hx hb dX8_task_100 rfl (lv_at hl 2 rfl) ?_
                refine k_get (index := 59) (j := 21) (ad := ad) (k := 16) (i := 0) Z X ct_16 inlX8 rfl (by decide) (inU_6 _ (List.mem_of_getElem? (i := 23) rfl)) (fun _ h => h) (v := .ref (ad 17 16)) rfl dX8_task_101 ?_
                refine lv_aload_n hx hb dX8_task_104 rfl (lv_at hl 2 rfl) ?_
                refine k_get (index := 128) (j := 20) (ad := ad) (k := 16) (i := 0) Z X ct_16 inlX8 rfl (by decide) (inU_18 _ (List.mem_of_getElem? (i := 1) rfl)) (fun _ h => h) (v := .int (nI (T.2 0 3))) rfl dX8_task_105 ?_
                refine lv_iload_n hx hb dX8_task_108 rfl (lv_at hl 4 rfl) ?_
                refine k_ist (ad := ad) (k := 17) (i := 16) Z X ct_17_16 (vp_in_nI (by first | assumption | omega) (by decide)) dX8_task_109 (fun H locs X => ?_)
                have X : kX E G s H locs ad (cto G S (sN (sI T 24 0 0)  4 (T.2 0 3) jm) o ad) := X.eq (st_17_16 _ _ (by omega))
                refine lv_aload_n hx hb dX8_task_110 rfl (lv_at hl 2 rfl) ?_
                refine k_get (index := 62) (j := 22) (ad := ad) (k := 16) (i := 0) Z X ct_16 inlX8 rfl (by decide) (inU_7 _ (List.mem_of_getElem? (i := 0) rfl)) (fun _ h => h) (v := .ref (ad 17 17)) rfl dX8_task_111 ?_
                refine lv_aload_n hx hb dX8_task_114 rfl (lv_at hl 2 rfl) ?_
                refine k_get (index := 128) (j := 20) (ad := ad) (k := 16) (i := 0) Z X ct_16 inlX8 rfl (by decide) (inU_18 _ (List.mem_of_getElem? (i := 1) rfl)) (fun _ h => h) (v := .int (nI (T.2 0 3))) rfl dX8_task_115 ?_
                refine lv_aload_n hx hb dX8_task_118 rfl (lv_at hl 2 rfl) ?_
                refine k_get (index := 32) (j := 10) (ad := ad) (k := 16) (i := 0) Z X ct_16 inlX8 rfl (by decide) (inU_6 _ (List.mem_of_getElem? (i := 14) rfl)) (fun _ h => h) (v := .ref (ad 17 7)) rfl dX8_task_119 ?_
                refine lv_iload_n hx hb dX8_task_122 rfl (lv_at hl 4 rfl) ?_
                refine k_ild (ad := ad) (k := 17) (i := 7) Z X ct_17_7 (vp_in_nI (by first | assumption | omega) (by decide)) dX8_task_123 ?_
                refine lv_topi (fun x_123 e_123 => ?_)
                obtain rfl : x_123 = T.1 7 jm := e_123.trans (by first | (simp only [nI_clamp (show jm < 2 ^ 31 by omega)]; done) | (simp only [nI_clamp (show jm < 2 ^ 31 by omega)]; rfl) | (simp only [nI_clamp (show jm < 2 ^ 31 by omega)]; simp [sI, sN]; done))
                refine k_ist (ad := ad) (k := 17) (i := 17) Z X ct_17_17 (vp_in_nI (by first | assumption | omega) (by decide)) dX8_task_124 (fun H locs X => ?_)
                have X : kX E G s H locs ad (cto G S (sI (sN (sI T 24 0 0)  4 (T.2 0 3) jm) 20 (T.2 0 3) (T.1 7 jm)) o ad) := X.eq (st_17_17 _ _ (by omega))
                refine lv_aload_n hx hb dX8_task_125 rfl (lv_at hl 2 rfl) ?_
                refine k_get (index := 65) (j := 23) (ad := ad) (k := 16) (i := 0) Z X ct_16 inlX8 rfl (by decide) (inU_7 _ (List.mem_of_getElem? (i := 1) rfl)) (fun _ h => h) (v := .ref (ad 17 18)) rfl dX8_task_126 ?_
                refine lv_aload_n hx hb dX8_task_129 rfl (lv_at hl 2 rfl) ?_
                refine k_get (index := 128) (j := 20) (ad := ad) (k := 16) (i := 0) Z X ct_16 inlX8 rfl (by decide) (inU_18 _ (List.mem_of_getElem? (i := 1) rfl)) (fun _ h => h) (v := .int (nI (T.2 0 3))) rfl dX8_task_130 ?_
                refine lv_iload_n hx hb dX8_task_133 rfl (lv_at hl 5 rfl) ?_
                refine k_ist (ad := ad) (k := 17) (i := 18) Z X ct_17_18 (vp_in_nI (by first | assumption | omega) (by decide)) dX8_task_134 (fun H locs X => ?_)
                have X : kX E G s H locs ad (cto G S (sN (sI (sN (sI T 24 0 0)  4 (T.2 0 3) jm) 20 (T.2 0 3) (T.1 7 jm))  5 (T.2 0 3) jw) o ad) := X.eq (st_17_18 _ _ (by omega))
                refine lv_aload_n hx hb dX8_task_135 rfl (lv_at hl 2 rfl) ?_
                refine k_get (index := 68) (j := 24) (ad := ad) (k := 16) (i := 0) Z X ct_16 inlX8 rfl (by decide) (inU_7 _ (List.mem_of_getElem? (i := 2) rfl)) (fun _ h => h) (v := .ref (ad 17 19)) rfl dX8_task_136 ?_
                refine lv_aload_n hx hb dX8_task_139 rfl (lv_at hl 2 rfl) ?_
                refine k_get (index := 128) (j := 20) (ad := ad) (k := 16) (i := 0) Z X ct_16 inlX8 rfl (by decide) (inU_18 _ (List.mem_of_getElem? (i := 1) rfl)) (fun _ h => h) (v := .int (nI (T.2 0 3))) rfl dX8_task_140 ?_
                refine lv_aload_n hx hb dX8_task_143 rfl (lv_at hl 2 rfl) ?_
                refine k_get (index := 88) (j := 0) (ad := ad) (k := 16) (i := 0) Z X ct_16 inlX8 rfl (by decide) (inU_13 _ (List.mem_of_getElem? (i := 6) rfl)) (fun _ h => h) (v := .int (T.1 0 0)) rfl dX8_task_144 ?_
                refine lv_iload hx hb dX8_task_147 (lv_at hl 6 rfl) ?_
                refine lv_iadd hx hb dX8_task_149 ?_
                refine k_ist (ad := ad) (k := 17) (i := 19) Z X ct_17_19 (vp_in_nI (by first | assumption | omega) (by decide)) dX8_task_150 (fun H locs X => ?_)
                have X : kX E G s H locs ad (cto G S (sI (sN (sI (sN (sI T 24 0 0)  4 (T.2 0 3) jm) 20 (T.2 0 3) (T.1 7 jm))  5 (T.2 0 3) jw) 13 (T.2 0 3) ((T.1 0 0) + xh)) o ad) := X.eq (st_17_19 _ _ (by omega))
                refine lv_aload_n hx hb dX8_task_151 rfl (lv_at hl 2 rfl) ?_
                refine k_get (index := 71) (j := 25) (ad := ad) (k := 16) (i := 0) Z X ct_16 inlX8 rfl (by decide) (inU_7 _ (List.mem_of_getElem? (i := 3) rfl)) (fun _ h => h) (v := .ref (ad 17 20)) rfl dX8_task_152 ?_
                refine lv_aload_n hx hb dX8_task_155 rfl (lv_at hl 2 rfl) ?_
                refine k_get (index := 128) (j := 20) (ad := ad) (k := 16) (i := 0) Z X ct_16 inlX8 rfl (by decide) (inU_18 _ (List.mem_of_getElem? (i := 1) rfl)) (fun _ h => h) (v := .int (nI (T.2 0 3))) rfl dX8_task_156 ?_
                refine lv_iconst (v := 0) hx hb dX8_task_159 (by decide) ?_
                refine k_ist (ad := ad) (k := 17) (i := 20) Z X ct_17_20 (vp_in_nI (by first | assumption | omega) (by decide)) dX8_task_160 (fun H locs X => ?_)
                have X : kX E G s H locs ad (cto G S (sI (sI (sN (sI (sN (sI T 24 0 0)  4 (T.2 0 3) jm) 20 (T.2 0 3) (T.1 7 jm))  5 (T.2 0 3) jw) 13 (T.2 0 3) ((T.1 0 0) + xh)) 14 (T.2 0 3) 0) o ad) := X.eq (st_17_20 _ _ (by omega))
                refine lv_aload_n hx hb dX8_task_161 rfl (lv_at hl 2 rfl) ?_
                refine lv_dup hx hb dX8_task_162 rfl ?_
                refine k_get (index := 128) (j := 20) (ad := ad) (k := 16) (i := 0) Z X ct_16 inlX8 rfl (by decide) (inU_18 _ (List.mem_of_getElem? (i := 1) rfl)) (fun _ h => h) (v := .int (nI (T.2 0 3))) rfl dX8_task_163 ?_
                refine lv_iconst (v := 1) hx hb dX8_task_166 (by decide) ?_
                refine lv_iadd hx hb dX8_task_167 ?_
                refine lv_topi (fun x_167 e_167 => ?_)
                obtain rfl : x_167 = nI (T.2 0 3 + 1) := e_167.trans (nI_1 _)
                refine k_put (index := 128) (j := 20) (k := 16) (i := 0) Z X ct_16 inlX8 tyX8_ok nmX8 rfl (by decide) (inU_18 _ (List.mem_of_getElem? (i := 1) rfl)) (fun _ h => h) rfl (Nat.le_of_ble_eq_true rfl) rfl rfl dX8_task_168 (fun H locs X => ?_)
                have X : kX E G s H locs ad (cto G S (sN (sI (sI (sN (sI (sN (sI T 24 0 0)  4 (T.2 0 3) jm) 20 (T.2 0 3) (T.1 7 jm))  5 (T.2 0 3) jw) 13 (T.2 0 3) ((T.1 0 0) + xh)) 14 (T.2 0 3) 0) 0 3 (T.2 0 3 + 1)) o ad) := X.eq (st_tasks _)
                refine lv_aload_n hx hb dX8_task_171 rfl (lv_at hl 2 rfl) ?_
                refine k_get (index := 128) (j := 20) (ad := ad) (k := 16) (i := 0) Z X ct_16 inlX8 rfl (by decide) (inU_18 _ (List.mem_of_getElem? (i := 1) rfl)) (fun _ h => h) (v := .int (nI (T.2 0 3 + 1))) rfl dX8_task_172 ?_
                refine lv_iconst (v := 1) hx hb dX8_task_175 (by decide) ?_
                refine lv_isub hx hb dX8_task_176 ?_
                refine lv_topi (fun x_176 e_176 => ?_)
                obtain rfl : x_176 = nI (T.2 0 3) := e_176.trans (nI_pred _)
                have hk : cTask T (nI ju) (nI jm) (nI jw) xh = 0 := by rw [cTask, if_neg (by rw [c_45]; decide), if_neg (by rw [c_54]; decide), if_neg (by simp [q_u, hcu, q_m, hcm, q_w, hcw, c_66, c_75, c_84, c_95])]
                exact k_iret Z X hr hlocks rfl (Nat.le_of_ble_eq_true rfl) (Nat.le_of_ble_eq_true rfl) dX8_task_177 ⟨fun _ => rfl, rfl, (congrArg (fun z => cto G S z o ad) (show (sN (sI (sI (sN (sI (sN (sI T 24 0 0)  4 (T.2 0 3) jm) 20 (T.2 0 3) (T.1 7 jm))  5 (T.2 0 3) jw) 13 (T.2 0 3) ((T.1 0 0) + xh)) 14 (T.2 0 3) 0) 0 3 (T.2 0 3 + 1)) = oTask (sI T 24 0 0) (nI jm) (nI jw) xh from by simp only [oTask, hcm, hcw]; rfl)).trans (by rw [if_pos hk])⟩
              · exact absurd c_95 (by decide)
            · have c_84 : (T.2 0 3) = 60 := (nI_eq (a := (T.2 0 3)) (b := 60) (by omega) (by decide)).mp c_84
              refine lv_iconst (v := 3) hx hb dX8_task_87 (by decide) ?_
              refine lv_goto (tgt := 92) hx hb dX8_task_88 (by decide) ?_
              refine k_Ri X (k_runV (As := [.int 3]) (rest := []) Z X (c_X8_fails l E G S T o ad 3) (k_cwV 1 Z.1.2.2.2.2 (inU_9 _ (List.mem_of_getElem? (i := 2) rfl)) (inU_9 _ (List.mem_of_getElem? (i := 3) rfl)) (inU_9 _ (List.mem_of_getElem? (i := 4) rfl)) (inU_1 _ (List.mem_of_getElem? (i := 5) rfl)) (inU_9 _ (List.mem_of_getElem? (i := 5) rfl)) rfl rfl (by decide +kernel) ⟨Nat.le_of_ble_eq_true rfl, Nat.le_of_ble_eq_true rfl⟩) (k_recv Z X ct_16 rfl) rfl hl.1 rfl (Nat.le_of_ble_eq_true rfl) dX8_task_92 ⟨Nat.le_of_ble_eq_true rfl, Nat.le_of_ble_eq_true rfl⟩) (fun r_92 ad1 ct1 H locs hp X => ?_)
              obtain ⟨rfl, rfl, rfl⟩ := hp
              refine lv_topi (fun x_92 e_92 => ?_)
              obtain rfl : x_92 = 1 := e_92.trans (by decide)
              refine lv_if_eq (tgt := 100) hx hb dX8_task_95 (by decide) (fun c_95 => ?_) (fun c_95 => ?_)
              · exact absurd c_95 (by decide)
              · refine lv_iconst (v := 0) hx hb dX8_task_98 (by decide) ?_
                have hk : cTask T (nI ju) (nI jm) (nI jw) xh = 3 := by rw [cTask, if_neg (by rw [c_45]; decide), if_neg (by rw [c_54]; decide), if_pos (by simp [q_u, hcu, q_m, hcm, q_w, hcw, c_66, c_75, c_84, c_95])]
                exact k_iret Z X hr hlocks rfl (Nat.le_of_ble_eq_true rfl) (Nat.le_of_ble_eq_true rfl) dX8_task_99 ⟨fun h => absurd (hk.symm.trans h) (by decide), rfl, by rw [hk, if_neg (by decide)]⟩
      · have c_54 : (inR xh 0 10000) = false := bI_0 c_54
        refine lv_iconst (v := 2) hx hb dX8_task_57 (by decide) ?_
        refine lv_goto (tgt := 92) hx hb dX8_task_58 (by decide) ?_
        refine k_Ri X (k_runV (As := [.int 2]) (rest := []) Z X (c_X8_fails l E G S T o ad 2) (k_cwV 1 Z.1.2.2.2.2 (inU_9 _ (List.mem_of_getElem? (i := 2) rfl)) (inU_9 _ (List.mem_of_getElem? (i := 3) rfl)) (inU_9 _ (List.mem_of_getElem? (i := 4) rfl)) (inU_1 _ (List.mem_of_getElem? (i := 5) rfl)) (inU_9 _ (List.mem_of_getElem? (i := 5) rfl)) rfl rfl (by decide +kernel) ⟨Nat.le_of_ble_eq_true rfl, Nat.le_of_ble_eq_true rfl⟩) (k_recv Z X ct_16 rfl) rfl hl.1 rfl (Nat.le_of_ble_eq_true rfl) dX8_task_92 ⟨Nat.le_of_ble_eq_true rfl, Nat.le_of_ble_eq_true rfl⟩) (fun r_92 ad1 ct1 H locs hp X => ?_)
        obtain ⟨rfl, rfl, rfl⟩ := hp
        refine lv_topi (fun x_92 e_92 => ?_)
        obtain rfl : x_92 = 1 := e_92.trans (by decide)
        refine lv_if_eq (tgt := 100) hx hb dX8_task_95 (by decide) (fun c_95 => ?_) (fun c_95 => ?_)
        · exact absurd c_95 (by decide)
        · refine lv_iconst (v := 0) hx hb dX8_task_98 (by decide) ?_
          have hk : cTask T (nI ju) (nI jm) (nI jw) xh = 2 := by rw [cTask, if_neg (by rw [c_45]; decide), if_pos c_54]
          exact k_iret Z X hr hlocks rfl (Nat.le_of_ble_eq_true rfl) (Nat.le_of_ble_eq_true rfl) dX8_task_99 ⟨fun h => absurd (hk.symm.trans h) (by decide), rfl, by rw [hk, if_neg (by decide)]⟩
    · have c_45 : (inB xu (T.2 0 0) && (inB xm (T.2 0 1) && inB xw (T.2 0 0))) = false := bI_0 c_45
      refine lv_iconst (v := 1) hx hb dX8_task_48 (by decide) ?_
      refine lv_goto (tgt := 92) hx hb dX8_task_49 (by decide) ?_
      refine k_Ri X (k_runV (As := [.int 1]) (rest := []) Z X (c_X8_fails l E G S T o ad 1) (k_cwV 1 Z.1.2.2.2.2 (inU_9 _ (List.mem_of_getElem? (i := 2) rfl)) (inU_9 _ (List.mem_of_getElem? (i := 3) rfl)) (inU_9 _ (List.mem_of_getElem? (i := 4) rfl)) (inU_1 _ (List.mem_of_getElem? (i := 5) rfl)) (inU_9 _ (List.mem_of_getElem? (i := 5) rfl)) rfl rfl (by decide +kernel) ⟨Nat.le_of_ble_eq_true rfl, Nat.le_of_ble_eq_true rfl⟩) (k_recv Z X ct_16 rfl) rfl hl.1 rfl (Nat.le_of_ble_eq_true rfl) dX8_task_92 ⟨Nat.le_of_ble_eq_true rfl, Nat.le_of_ble_eq_true rfl⟩) (fun r_92 ad1 ct1 H locs hp X => ?_)
      obtain ⟨rfl, rfl, rfl⟩ := hp
      refine lv_topi (fun x_92 e_92 => ?_)
      obtain rfl : x_92 = 1 := e_92.trans (by decide)
      refine lv_if_eq (tgt := 100) hx hb dX8_task_95 (by decide) (fun c_95 => ?_) (fun c_95 => ?_)
      · exact absurd c_95 (by decide)
      · refine lv_iconst (v := 0) hx hb dX8_task_98 (by decide) ?_
        have hk : cTask T xu xm xw xh = 1 := by rw [cTask, if_pos c_45]
        exact k_iret Z X hr hlocks rfl (Nat.le_of_ble_eq_true rfl) (Nat.le_of_ble_eq_true rfl) dX8_task_99 ⟨fun h => absurd (hk.symm.trans h) (by decide), rfl, by rw [hk, if_neg (by decide)]⟩
  refine lv_aload_n hx hb dX8_task_0 rfl (lv_at hl 0 rfl) ?_
  refine lv_iload_n hx hb dX8_task_1 rfl (lv_at hl 1 rfl) ?_
  refine k_Ri X (k_runV (As := [.int xu]) (rest := []) Z X (c_X8_isUser l E G S T o ad xu (by omega)) (k_cwV 1 Z.1.2.2.2.2 (inU_12 _ (List.mem_of_getElem? (i := 9) rfl)) (inU_12 _ (List.mem_of_getElem? (i := 10) rfl)) (inU_12 _ (List.mem_of_getElem? (i := 11) rfl)) (inU_1 _ (List.mem_of_getElem? (i := 5) rfl)) (inU_12 _ (List.mem_of_getElem? (i := 12) rfl)) rfl rfl (by decide +kernel) ⟨Nat.le_of_ble_eq_true rfl, Nat.le_of_ble_eq_true rfl⟩) (k_recv Z X ct_16 rfl) rfl hl.1 rfl (Nat.le_of_ble_eq_true rfl) dX8_task_2 ⟨Nat.le_of_ble_eq_true rfl, Nat.le_of_ble_eq_true rfl⟩) (fun r_2 ad1 ct1 H locs hp X => ?_)
  obtain ⟨rfl, rfl, rfl⟩ := hp
  refine lv_if_eq (tgt := 28) hx hb dX8_task_5 (by decide) (fun c_5 => ?_) (fun c_5 => ?_)
  · have c_5 : (inB xu (T.2 0 0)) = false := bI_0 c_5
    refine lv_iconst (v := 0) hx hb dX8_task_28 (by decide) ?_
    exact W.eq (congrArg (fun z => F0 m 29 ls (.int z :: [])) (bI_f (by simp [c_5]))) (M_29 H locs X)
  · have c_5 : (inB xu (T.2 0 0)) = true := bI_1 c_5
    refine lv_aload_n hx hb dX8_task_8 rfl (lv_at hl 0 rfl) ?_
    refine lv_iload_n hx hb dX8_task_9 rfl (lv_at hl 2 rfl) ?_
    refine k_Ri X (k_runV (As := [.int xm]) (rest := []) Z X (c_X8_isMessage l E G S T o ad xm (by omega)) (k_cwV 1 Z.1.2.2.2.2 (inU_16 _ (List.mem_of_getElem? (i := 13) rfl)) (inU_16 _ (List.mem_of_getElem? (i := 14) rfl)) (inU_16 _ (List.mem_of_getElem? (i := 15) rfl)) (inU_1 _ (List.mem_of_getElem? (i := 5) rfl)) (inU_16 _ (List.mem_of_getElem? (i := 16) rfl)) rfl rfl (by decide +kernel) ⟨Nat.le_of_ble_eq_true rfl, Nat.le_of_ble_eq_true rfl⟩) (k_recv Z X ct_16 rfl) rfl hl.1 rfl (Nat.le_of_ble_eq_true rfl) dX8_task_10 ⟨Nat.le_of_ble_eq_true rfl, Nat.le_of_ble_eq_true rfl⟩) (fun r_10 ad1 ct1 H locs hp X => ?_)
    obtain ⟨rfl, rfl, rfl⟩ := hp
    refine lv_if_eq (tgt := 28) hx hb dX8_task_13 (by decide) (fun c_13 => ?_) (fun c_13 => ?_)
    · have c_13 : (inB xm (T.2 0 1)) = false := bI_0 c_13
      refine lv_iconst (v := 0) hx hb dX8_task_28 (by decide) ?_
      exact W.eq (congrArg (fun z => F0 m 29 ls (.int z :: [])) (bI_f (by simp [c_5, c_13]))) (M_29 H locs X)
    · have c_13 : (inB xm (T.2 0 1)) = true := bI_1 c_13
      refine lv_aload_n hx hb dX8_task_16 rfl (lv_at hl 0 rfl) ?_
      refine lv_iload_n hx hb dX8_task_17 rfl (lv_at hl 3 rfl) ?_
      refine k_Ri X (k_runV (As := [.int xw]) (rest := []) Z X (c_X8_isUser l E G S T o ad xw (by omega)) (k_cwV 1 Z.1.2.2.2.2 (inU_12 _ (List.mem_of_getElem? (i := 9) rfl)) (inU_12 _ (List.mem_of_getElem? (i := 10) rfl)) (inU_12 _ (List.mem_of_getElem? (i := 11) rfl)) (inU_1 _ (List.mem_of_getElem? (i := 5) rfl)) (inU_12 _ (List.mem_of_getElem? (i := 12) rfl)) rfl rfl (by decide +kernel) ⟨Nat.le_of_ble_eq_true rfl, Nat.le_of_ble_eq_true rfl⟩) (k_recv Z X ct_16 rfl) rfl hl.1 rfl (Nat.le_of_ble_eq_true rfl) dX8_task_18 ⟨Nat.le_of_ble_eq_true rfl, Nat.le_of_ble_eq_true rfl⟩) (fun r_18 ad1 ct1 H locs hp X => ?_)
      obtain ⟨rfl, rfl, rfl⟩ := hp
      refine lv_if_eq (tgt := 28) hx hb dX8_task_21 (by decide) (fun c_21 => ?_) (fun c_21 => ?_)
      · have c_21 : (inB xw (T.2 0 0)) = false := bI_0 c_21
        refine lv_iconst (v := 0) hx hb dX8_task_28 (by decide) ?_
        exact W.eq (congrArg (fun z => F0 m 29 ls (.int z :: [])) (bI_f (by simp [c_5, c_13, c_21]))) (M_29 H locs X)
      · have c_21 : (inB xw (T.2 0 0)) = true := bI_1 c_21
        refine lv_iconst (v := 1) hx hb dX8_task_24 (by decide) ?_
        refine lv_goto (tgt := 29) hx hb dX8_task_25 (by decide) ?_
        exact W.eq (congrArg (fun z => F0 m 29 ls (.int z :: [])) (bI_t (by simp [c_5, c_13, c_21]))) (M_29 H locs X)
theorem dX8_done_0 : decode cX8_done 0 = .ok (.aload_n 0, 1) := by decide +kernel
theorem dX8_done_1 : decode cX8_done 1 = .ok (.iload_n 1, 1) := by decide +kernel
theorem dX8_done_2 : decode cX8_done 2 = .ok (.invokevirtual 114, 3) := by decide +kernel
theorem dX8_done_5 : decode cX8_done 5 = .ok (.ifCond .eq 15, 3) := by decide +kernel
theorem dX8_done_8 : decode cX8_done 8 = .ok (.aload_n 0, 1) := by decide +kernel
theorem dX8_done_9 : decode cX8_done 9 = .ok (.iload_n 2, 1) := by decide +kernel
theorem dX8_done_10 : decode cX8_done 10 = .ok (.invokevirtual 135, 3) := by decide +kernel
theorem dX8_done_13 : decode cX8_done 13 = .ok (.ifCond .eq 7, 3) := by decide +kernel
theorem dX8_done_16 : decode cX8_done 16 = .ok (.iconst 1, 1) := by decide +kernel
theorem dX8_done_17 : decode cX8_done 17 = .ok (.goto 4, 3) := by decide +kernel
theorem dX8_done_20 : decode cX8_done 20 = .ok (.iconst 0, 1) := by decide +kernel
theorem dX8_done_21 : decode cX8_done 21 = .ok (.istore_n 3, 1) := by decide +kernel
theorem dX8_done_22 : decode cX8_done 22 = .ok (.aload_n 0, 1) := by decide +kernel
theorem dX8_done_23 : decode cX8_done 23 = .ok (.iload_n 3, 1) := by decide +kernel
theorem dX8_done_24 : decode cX8_done 24 = .ok (.ifCond .ne 7, 3) := by decide +kernel
theorem dX8_done_27 : decode cX8_done 27 = .ok (.iconst 1, 1) := by decide +kernel
theorem dX8_done_28 : decode cX8_done 28 = .ok (.goto 35, 3) := by decide +kernel
theorem dX8_done_31 : decode cX8_done 31 = .ok (.aload_n 0, 1) := by decide +kernel
theorem dX8_done_32 : decode cX8_done 32 = .ok (.iload_n 1, 1) := by decide +kernel
theorem dX8_done_33 : decode cX8_done 33 = .ok (.invokevirtual 94, 3) := by decide +kernel
theorem dX8_done_36 : decode cX8_done 36 = .ok (.ifCond .ne 22, 3) := by decide +kernel
theorem dX8_done_39 : decode cX8_done 39 = .ok (.aload_n 0, 1) := by decide +kernel
theorem dX8_done_40 : decode cX8_done 40 = .ok (.getfield 65, 3) := by decide +kernel
theorem dX8_done_43 : decode cX8_done 43 = .ok (.iload_n 2, 1) := by decide +kernel
theorem dX8_done_44 : decode cX8_done 44 = .ok (.iaload, 1) := by decide +kernel
theorem dX8_done_45 : decode cX8_done 45 = .ok (.iload_n 1, 1) := by decide +kernel
theorem dX8_done_46 : decode cX8_done 46 = .ok (.if_icmp .ne 12, 3) := by decide +kernel
theorem dX8_done_49 : decode cX8_done 49 = .ok (.aload_n 0, 1) := by decide +kernel
theorem dX8_done_50 : decode cX8_done 50 = .ok (.getfield 71, 3) := by decide +kernel
theorem dX8_done_53 : decode cX8_done 53 = .ok (.iload_n 2, 1) := by decide +kernel
theorem dX8_done_54 : decode cX8_done 54 = .ok (.iaload, 1) := by decide +kernel
theorem dX8_done_55 : decode cX8_done 55 = .ok (.ifCond .eq 7, 3) := by decide +kernel
theorem dX8_done_58 : decode cX8_done 58 = .ok (.iconst 2, 1) := by decide +kernel
theorem dX8_done_59 : decode cX8_done 59 = .ok (.goto 4, 3) := by decide +kernel
theorem dX8_done_62 : decode cX8_done 62 = .ok (.iconst 0, 1) := by decide +kernel
theorem dX8_done_63 : decode cX8_done 63 = .ok (.invokevirtual 111, 3) := by decide +kernel
theorem dX8_done_66 : decode cX8_done 66 = .ok (.ifCond .eq 5, 3) := by decide +kernel
theorem dX8_done_69 : decode cX8_done 69 = .ok (.iconst 0, 1) := by decide +kernel
theorem dX8_done_70 : decode cX8_done 70 = .ok (.ireturn, 1) := by decide +kernel
theorem dX8_done_71 : decode cX8_done 71 = .ok (.aload_n 0, 1) := by decide +kernel
theorem dX8_done_72 : decode cX8_done 72 = .ok (.getfield 71, 3) := by decide +kernel
theorem dX8_done_75 : decode cX8_done 75 = .ok (.iload_n 2, 1) := by decide +kernel
theorem dX8_done_76 : decode cX8_done 76 = .ok (.iconst 1, 1) := by decide +kernel
theorem dX8_done_77 : decode cX8_done 77 = .ok (.iastore, 1) := by decide +kernel
theorem dX8_done_78 : decode cX8_done 78 = .ok (.aload_n 0, 1) := by decide +kernel
theorem dX8_done_79 : decode cX8_done 79 = .ok (.getfield 68, 3) := by decide +kernel
theorem dX8_done_82 : decode cX8_done 82 = .ok (.iload_n 2, 1) := by decide +kernel
theorem dX8_done_83 : decode cX8_done 83 = .ok (.iaload, 1) := by decide +kernel
theorem dX8_done_84 : decode cX8_done 84 = .ok (.aload_n 0, 1) := by decide +kernel
theorem dX8_done_85 : decode cX8_done 85 = .ok (.getfield 88, 3) := by decide +kernel
theorem dX8_done_88 : decode cX8_done 88 = .ok (.isub, 1) := by decide +kernel
theorem dX8_done_89 : decode cX8_done 89 = .ok (.ireturn, 1) := by decide +kernel
set_option maxHeartbeats 4000000 in
set_option maxRecDepth 100000 in
theorem c_X8_done (l : Launch) (E : State) (G : kG) (S T : kSt) (o : Int64) (ad : kAd) (xu xt : Int32) (hT : okN T) : Met l yX8_done (.code yX8_done cX8_done 4 (some .int) :: wsL_law) ({ frames := 4, cells := 0, slots := 0, locals := 90 } : Room) (va_Pc [.ref (ad 16 0), .int xu, .int xt] (kPre E G ad (cto G S T o ad))) (kQi E G (fun r ad1 ct1 => (cDone T xu xt = 0 → r = T.1 13 (cl xt) - T.1 0 0) ∧ ad = ad1 ∧ ct1 = cto G S (if cDone T xu xt = 0 then oDone (sI T 24 0 0) xt else sI T 24 0 (cDone T xu xt)) o ad)) 0 0 (kB E.heap.size) := by
  refine Met.ofW (cc := cX8_done) (maxL := 4) (ret := (some .int)) (by decide) rfl ?_
  intro p e s m args below meth c s₁ B hml hv
  obtain ⟨rfl, hM, hK, hW0⟩ := hv
  have hlocks := B.notSynchronized
  have hr := B.returns
  have Z : kZ p m c cX8_done 4 s _ wsL_law RX8 E G := ⟨⟨B.exec, B.bytes, hml, findClass_of_methodNamed B.named, fun w h => atoms_spec (ws := .code yX8_done cX8_done 4 (some .int) :: wsL_law) B.pre w (List.mem_cons_of_mem _ h)⟩, hM, hK⟩
  have hx := Z.1.1
  have hb := Z.1.2.1
  have X := kX.of hW0
  have hl := lv_entry ([.ref (ad 16 0), .int xu, .int xt]) (n := 4) (Nat.le_of_ble_eq_true rfl)
  rw [lg_entry_eq]
  generalize (lg_sl ([.ref (ad 16 0), .int xu, .int xt]) ++ List.replicate (4 - (lg_sl ([.ref (ad 16 0), .int xu, .int xt])).length) Slot.unset).toArray = ls at hl ⊢
  have hl : lv_has ls 4 [(0, .ref (ad 16 0)), (1, .int xu), (2, .int xt)] := hl
  have hT0 := hT
  obtain ⟨hT1, hT2, hT3, hT4, hT5, hT6, hT7⟩ := hT0
  have M_21 : ∀ (H : Heap) (locs : List Loc), kX E G s H locs ad (cto G S T o ad) → W p l e (headSpec (Cond.code yX8_done cX8_done 4 (some .int) :: wsL_law) ({ frames := 4, cells := 0, slots := 0, locals := 90 } : Room)).room s m ([.ref (ad 16 0), .int xu, .int xt] : List Value).toArray below meth c H locs 0 0 (MQ below (kQi E G (fun r ad1 ct1 => (cDone T xu xt = 0 → r = T.1 13 (cl xt) - T.1 0 0) ∧ ad = ad1 ∧ ct1 = cto G S (if cDone T xu xt = 0 then oDone (sI T 24 0 0) xt else sI T 24 0 (cDone T xu xt)) o ad)) ([.ref (ad 16 0), .int xu, .int xt] : List Value).toArray s 0 0 (kB E.heap.size)) (F0 m 21 ls [.int (bI (inB xu (T.2 0 0) && inB xt (T.2 0 3)))]) := by
    intro H locs X
    refine lv_istore_n (lv' := [(3, .int (bI (inB xu (T.2 0 0) && inB xt (T.2 0 3)))), (0, .ref (ad 16 0)), (1, .int xu), (2, .int xt)]) hx hb dX8_done_21 rfl hl (by decide) rfl (fun ls hl => ?_)
    refine lv_aload_n hx hb dX8_done_22 rfl (lv_at hl 1 rfl) ?_
    refine lv_iload_n hx hb dX8_done_23 rfl (lv_at hl 0 rfl) ?_
    refine lv_if_ne (tgt := 31) hx hb dX8_done_24 (by decide) (fun c_24 => ?_) (fun c_24 => ?_)
    · have c_24 : (inB xu (T.2 0 0) && inB xt (T.2 0 3)) = true := bI_1 c_24
      have q_24 := c_24
      simp only [Bool.and_eq_true] at q_24
      obtain ⟨q_u, q_t⟩ := q_24
      obtain ⟨ju, hju, hxu⟩ := inB_of q_u (by omega)
      subst hxu
      have hcu : cl (nI ju) = ju := nI_clamp (by omega)
      obtain ⟨jt, hjt, hxt⟩ := inB_of q_t (by omega)
      subst hxt
      have hct : cl (nI jt) = jt := nI_clamp (by omega)
      refine lv_aload_n hx hb dX8_done_31 rfl (lv_at hl 1 rfl) ?_
      refine lv_iload_n hx hb dX8_done_32 rfl (lv_at hl 2 rfl) ?_
      refine k_Ri X (k_runV (As := [.int (nI ju)]) (rest := [.ref (ad 16 0)]) Z X (c_X8_isGone l E G S T o ad ju (by omega)) (k_cwV 1 Z.1.2.2.2.2 (inU_13 _ (List.mem_of_getElem? (i := 2) rfl)) (inU_13 _ (List.mem_of_getElem? (i := 3) rfl)) (inU_13 _ (List.mem_of_getElem? (i := 4) rfl)) (inU_1 _ (List.mem_of_getElem? (i := 5) rfl)) (inU_13 _ (List.mem_of_getElem? (i := 5) rfl)) rfl rfl (by decide +kernel) ⟨Nat.le_of_ble_eq_true rfl, Nat.le_of_ble_eq_true rfl⟩) (k_recv Z X ct_16 rfl) rfl hl.1 rfl (Nat.le_of_ble_eq_true rfl) dX8_done_33 ⟨Nat.le_of_ble_eq_true rfl, Nat.le_of_ble_eq_true rfl⟩) (fun r_33 ad1 ct1 H locs hp X => ?_)
      obtain ⟨rfl, rfl, rfl⟩ := hp
      refine lv_if_ne (tgt := 58) hx hb dX8_done_36 (by decide) (fun c_36 => ?_) (fun c_36 => ?_)
      · have c_36 : (gone T ju) = true := bI_1 c_36
        refine lv_iconst (v := 2) hx hb dX8_done_58 (by decide) ?_
        refine lv_goto (tgt := 63) hx hb dX8_done_59 (by decide) ?_
        refine k_Ri X (k_runV (As := [.int 2]) (rest := []) Z X (c_X8_fails l E G S T o ad 2) (k_cwV 1 Z.1.2.2.2.2 (inU_9 _ (List.mem_of_getElem? (i := 2) rfl)) (inU_9 _ (List.mem_of_getElem? (i := 3) rfl)) (inU_9 _ (List.mem_of_getElem? (i := 4) rfl)) (inU_1 _ (List.mem_of_getElem? (i := 5) rfl)) (inU_9 _ (List.mem_of_getElem? (i := 5) rfl)) rfl rfl (by decide +kernel) ⟨Nat.le_of_ble_eq_true rfl, Nat.le_of_ble_eq_true rfl⟩) (k_recv Z X ct_16 rfl) rfl hl.1 rfl (Nat.le_of_ble_eq_true rfl) dX8_done_63 ⟨Nat.le_of_ble_eq_true rfl, Nat.le_of_ble_eq_true rfl⟩) (fun r_63 ad1 ct1 H locs hp X => ?_)
        obtain ⟨rfl, rfl, rfl⟩ := hp
        refine lv_topi (fun x_63 e_63 => ?_)
        obtain rfl : x_63 = 1 := e_63.trans (by decide)
        refine lv_if_eq (tgt := 71) hx hb dX8_done_66 (by decide) (fun c_66 => ?_) (fun c_66 => ?_)
        · exact absurd c_66 (by decide)
        · refine lv_iconst (v := 0) hx hb dX8_done_69 (by decide) ?_
          have hk : cDone T (nI ju) (nI jt) = 2 := by rw [cDone, if_neg (by rw [c_24]; decide), if_pos (by simp [q_u, hcu, q_t, hct, c_36, c_66])]
          exact k_iret Z X hr hlocks rfl (Nat.le_of_ble_eq_true rfl) (Nat.le_of_ble_eq_true rfl) dX8_done_70 ⟨fun h => absurd (hk.symm.trans h) (by decide), rfl, by rw [hk, if_neg (by decide)]⟩
      · have c_36 : (gone T ju) = false := bI_0 c_36
        refine lv_aload_n hx hb dX8_done_39 rfl (lv_at hl 1 rfl) ?_
        refine k_get (index := 65) (j := 23) (ad := ad) (k := 16) (i := 0) Z X ct_16 inlX8 rfl (by decide) (inU_7 _ (List.mem_of_getElem? (i := 1) rfl)) (fun _ h => h) (v := .ref (ad 17 18)) rfl dX8_done_40 ?_
        refine lv_iload_n hx hb dX8_done_43 rfl (lv_at hl 3 rfl) ?_
        refine k_ild (ad := ad) (k := 17) (i := 18) Z X ct_17_18 (vp_in_nI (by first | assumption | omega) (by decide)) dX8_done_44 ?_
        refine lv_topi (fun x_44 e_44 => ?_)
        obtain rfl : x_44 = nI (T.2 5 jt) := e_44.trans (by first | (simp only [nI_clamp (show jt < 2 ^ 31 by omega)]; done) | (simp only [nI_clamp (show jt < 2 ^ 31 by omega)]; rfl) | (simp only [nI_clamp (show jt < 2 ^ 31 by omega)]; simp [sI, sN]; done))
        refine lv_iload_n hx hb dX8_done_45 rfl (lv_at hl 2 rfl) ?_
        refine lv_icmp_ne (tgt := 58) hx hb dX8_done_46 (by decide) (fun c_46 => ?_) (fun c_46 => ?_)
        · have c_46 : ¬ (T.2 5 jt) = ju := fun h => c_46 ((nI_eq (a := (T.2 5 jt)) (b := ju) (by have := (hT7 jt hjt).2; omega) (by omega)).mpr h)
          refine lv_iconst (v := 2) hx hb dX8_done_58 (by decide) ?_
          refine lv_goto (tgt := 63) hx hb dX8_done_59 (by decide) ?_
          refine k_Ri X (k_runV (As := [.int 2]) (rest := []) Z X (c_X8_fails l E G S T o ad 2) (k_cwV 1 Z.1.2.2.2.2 (inU_9 _ (List.mem_of_getElem? (i := 2) rfl)) (inU_9 _ (List.mem_of_getElem? (i := 3) rfl)) (inU_9 _ (List.mem_of_getElem? (i := 4) rfl)) (inU_1 _ (List.mem_of_getElem? (i := 5) rfl)) (inU_9 _ (List.mem_of_getElem? (i := 5) rfl)) rfl rfl (by decide +kernel) ⟨Nat.le_of_ble_eq_true rfl, Nat.le_of_ble_eq_true rfl⟩) (k_recv Z X ct_16 rfl) rfl hl.1 rfl (Nat.le_of_ble_eq_true rfl) dX8_done_63 ⟨Nat.le_of_ble_eq_true rfl, Nat.le_of_ble_eq_true rfl⟩) (fun r_63 ad1 ct1 H locs hp X => ?_)
          obtain ⟨rfl, rfl, rfl⟩ := hp
          refine lv_topi (fun x_63 e_63 => ?_)
          obtain rfl : x_63 = 1 := e_63.trans (by decide)
          refine lv_if_eq (tgt := 71) hx hb dX8_done_66 (by decide) (fun c_66 => ?_) (fun c_66 => ?_)
          · exact absurd c_66 (by decide)
          · refine lv_iconst (v := 0) hx hb dX8_done_69 (by decide) ?_
            have hk : cDone T (nI ju) (nI jt) = 2 := by rw [cDone, if_neg (by rw [c_24]; decide), if_pos (by simp [q_u, hcu, q_t, hct, c_36, c_46, c_66])]
            exact k_iret Z X hr hlocks rfl (Nat.le_of_ble_eq_true rfl) (Nat.le_of_ble_eq_true rfl) dX8_done_70 ⟨fun h => absurd (hk.symm.trans h) (by decide), rfl, by rw [hk, if_neg (by decide)]⟩
        · have c_46 : (T.2 5 jt) = ju := (nI_eq (a := (T.2 5 jt)) (b := ju) (by have := (hT7 jt hjt).2; omega) (by omega)).mp c_46
          refine lv_aload_n hx hb dX8_done_49 rfl (lv_at hl 1 rfl) ?_
          refine k_get (index := 71) (j := 25) (ad := ad) (k := 16) (i := 0) Z X ct_16 inlX8 rfl (by decide) (inU_7 _ (List.mem_of_getElem? (i := 3) rfl)) (fun _ h => h) (v := .ref (ad 17 20)) rfl dX8_done_50 ?_
          refine lv_iload_n hx hb dX8_done_53 rfl (lv_at hl 3 rfl) ?_
          refine k_ild (ad := ad) (k := 17) (i := 20) Z X ct_17_20 (vp_in_nI (by first | assumption | omega) (by decide)) dX8_done_54 ?_
          refine lv_topi (fun x_54 e_54 => ?_)
          obtain rfl : x_54 = T.1 14 jt := e_54.trans (by first | (simp only [nI_clamp (show jt < 2 ^ 31 by omega)]; done) | (simp only [nI_clamp (show jt < 2 ^ 31 by omega)]; rfl) | (simp only [nI_clamp (show jt < 2 ^ 31 by omega)]; simp [sI, sN]; done))
          refine lv_if_eq (tgt := 62) hx hb dX8_done_55 (by decide) (fun c_55 => ?_) (fun c_55 => ?_)
          · refine lv_iconst (v := 0) hx hb dX8_done_62 (by decide) ?_
            refine k_Ri X (k_runV (As := [.int 0]) (rest := []) Z X (c_X8_fails l E G S T o ad 0) (k_cwV 1 Z.1.2.2.2.2 (inU_9 _ (List.mem_of_getElem? (i := 2) rfl)) (inU_9 _ (List.mem_of_getElem? (i := 3) rfl)) (inU_9 _ (List.mem_of_getElem? (i := 4) rfl)) (inU_1 _ (List.mem_of_getElem? (i := 5) rfl)) (inU_9 _ (List.mem_of_getElem? (i := 5) rfl)) rfl rfl (by decide +kernel) ⟨Nat.le_of_ble_eq_true rfl, Nat.le_of_ble_eq_true rfl⟩) (k_recv Z X ct_16 rfl) rfl hl.1 rfl (Nat.le_of_ble_eq_true rfl) dX8_done_63 ⟨Nat.le_of_ble_eq_true rfl, Nat.le_of_ble_eq_true rfl⟩) (fun r_63 ad1 ct1 H locs hp X => ?_)
            obtain ⟨rfl, rfl, rfl⟩ := hp
            refine lv_topi (fun x_63 e_63 => ?_)
            obtain rfl : x_63 = 0 := e_63.trans (by decide)
            refine lv_if_eq (tgt := 71) hx hb dX8_done_66 (by decide) (fun c_66 => ?_) (fun c_66 => ?_)
            · refine lv_aload_n hx hb dX8_done_71 rfl (lv_at hl 1 rfl) ?_
              refine k_get (index := 71) (j := 25) (ad := ad) (k := 16) (i := 0) Z X ct_16 inlX8 rfl (by decide) (inU_7 _ (List.mem_of_getElem? (i := 3) rfl)) (fun _ h => h) (v := .ref (ad 17 20)) rfl dX8_done_72 ?_
              refine lv_iload_n hx hb dX8_done_75 rfl (lv_at hl 3 rfl) ?_
              refine lv_iconst (v := 1) hx hb dX8_done_76 (by decide) ?_
              refine k_ist (ad := ad) (k := 17) (i := 20) Z X ct_17_20 (vp_in_nI (by first | assumption | omega) (by decide)) dX8_done_77 (fun H locs X => ?_)
              have X : kX E G s H locs ad (cto G S (sI (sI T 24 0 0) 14 jt 1) o ad) := X.eq (st_17_20 _ _ (by omega))
              refine lv_aload_n hx hb dX8_done_78 rfl (lv_at hl 1 rfl) ?_
              refine k_get (index := 68) (j := 24) (ad := ad) (k := 16) (i := 0) Z X ct_16 inlX8 rfl (by decide) (inU_7 _ (List.mem_of_getElem? (i := 2) rfl)) (fun _ h => h) (v := .ref (ad 17 19)) rfl dX8_done_79 ?_
              refine lv_iload_n hx hb dX8_done_82 rfl (lv_at hl 3 rfl) ?_
              refine k_ild (ad := ad) (k := 17) (i := 19) Z X ct_17_19 (vp_in_nI (by first | assumption | omega) (by decide)) dX8_done_83 ?_
              refine lv_topi (fun x_83 e_83 => ?_)
              obtain rfl : x_83 = T.1 13 jt := e_83.trans (by first | (simp only [nI_clamp (show jt < 2 ^ 31 by omega)]; done) | (simp only [nI_clamp (show jt < 2 ^ 31 by omega)]; rfl) | (simp only [nI_clamp (show jt < 2 ^ 31 by omega)]; simp [sI, sN]; done))
              refine lv_aload_n hx hb dX8_done_84 rfl (lv_at hl 1 rfl) ?_
              refine k_get (index := 88) (j := 0) (ad := ad) (k := 16) (i := 0) Z X ct_16 inlX8 rfl (by decide) (inU_13 _ (List.mem_of_getElem? (i := 6) rfl)) (fun _ h => h) (v := .int (T.1 0 0)) rfl dX8_done_85 ?_
              refine lv_isub hx hb dX8_done_88 ?_
              have hk : cDone T (nI ju) (nI jt) = 0 := by rw [cDone, if_neg (by rw [c_24]; decide), if_neg (by simp [q_u, hcu, q_t, hct, c_36, c_46, c_55, c_66])]
              exact k_iret Z X hr hlocks rfl (Nat.le_of_ble_eq_true rfl) (Nat.le_of_ble_eq_true rfl) dX8_done_89 ⟨fun _ => by rw [hct], rfl, (congrArg (fun z => cto G S z o ad) (show (sI (sI T 24 0 0) 14 jt 1) = oDone (sI T 24 0 0) (nI jt) from by simp only [oDone, hct])).trans (by rw [if_pos hk])⟩
            · exact absurd c_66 (by decide)
          · refine lv_iconst (v := 2) hx hb dX8_done_58 (by decide) ?_
            refine lv_goto (tgt := 63) hx hb dX8_done_59 (by decide) ?_
            refine k_Ri X (k_runV (As := [.int 2]) (rest := []) Z X (c_X8_fails l E G S T o ad 2) (k_cwV 1 Z.1.2.2.2.2 (inU_9 _ (List.mem_of_getElem? (i := 2) rfl)) (inU_9 _ (List.mem_of_getElem? (i := 3) rfl)) (inU_9 _ (List.mem_of_getElem? (i := 4) rfl)) (inU_1 _ (List.mem_of_getElem? (i := 5) rfl)) (inU_9 _ (List.mem_of_getElem? (i := 5) rfl)) rfl rfl (by decide +kernel) ⟨Nat.le_of_ble_eq_true rfl, Nat.le_of_ble_eq_true rfl⟩) (k_recv Z X ct_16 rfl) rfl hl.1 rfl (Nat.le_of_ble_eq_true rfl) dX8_done_63 ⟨Nat.le_of_ble_eq_true rfl, Nat.le_of_ble_eq_true rfl⟩) (fun r_63 ad1 ct1 H locs hp X => ?_)
            obtain ⟨rfl, rfl, rfl⟩ := hp
            refine lv_topi (fun x_63 e_63 => ?_)
            obtain rfl : x_63 = 1 := e_63.trans (by decide)
            refine lv_if_eq (tgt := 71) hx hb dX8_done_66 (by decide) (fun c_66 => ?_) (fun c_66 => ?_)
            · exact absurd c_66 (by decide)
            · refine lv_iconst (v := 0) hx hb dX8_done_69 (by decide) ?_
              have hk : cDone T (nI ju) (nI jt) = 2 := by rw [cDone, if_neg (by rw [c_24]; decide), if_pos (by simp [q_u, hcu, q_t, hct, c_36, c_46, c_55, c_66])]
              exact k_iret Z X hr hlocks rfl (Nat.le_of_ble_eq_true rfl) (Nat.le_of_ble_eq_true rfl) dX8_done_70 ⟨fun h => absurd (hk.symm.trans h) (by decide), rfl, by rw [hk, if_neg (by decide)]⟩
    · have c_24 : (inB xu (T.2 0 0) && inB xt (T.2 0 3)) = false := bI_0 c_24
      refine lv_iconst (v := 1) hx hb dX8_done_27 (by decide) ?_
      refine lv_goto (tgt := 63) hx hb dX8_done_28 (by decide) ?_
      refine k_Ri X (k_runV (As := [.int 1]) (rest := []) Z X (c_X8_fails l E G S T o ad 1) (k_cwV 1 Z.1.2.2.2.2 (inU_9 _ (List.mem_of_getElem? (i := 2) rfl)) (inU_9 _ (List.mem_of_getElem? (i := 3) rfl)) (inU_9 _ (List.mem_of_getElem? (i := 4) rfl)) (inU_1 _ (List.mem_of_getElem? (i := 5) rfl)) (inU_9 _ (List.mem_of_getElem? (i := 5) rfl)) rfl rfl (by decide +kernel) ⟨Nat.le_of_ble_eq_true rfl, Nat.le_of_ble_eq_true rfl⟩) (k_recv Z X ct_16 rfl) rfl hl.1 rfl (Nat.le_of_ble_eq_true rfl) dX8_done_63 ⟨Nat.le_of_ble_eq_true rfl, Nat.le_of_ble_eq_true rfl⟩) (fun r_63 ad1 ct1 H locs hp X => ?_)
      obtain ⟨rfl, rfl, rfl⟩ := hp
      refine lv_topi (fun x_63 e_63 => ?_)
      obtain rfl : x_63 = 1 := e_63.trans (by decide)
      refine lv_if_eq (tgt := 71) hx hb dX8_done_66 (by decide) (fun c_66 => ?_) (fun c_66 => ?_)
      · exact absurd c_66 (by decide)
      · refine lv_iconst (v := 0) hx hb dX8_done_69 (by decide) ?_
        have hk : cDone T xu xt = 1 := by rw [cDone, if_pos c_24]
        exact k_iret Z X hr hlocks rfl (Nat.le_of_ble_eq_true rfl) (Nat.le_of_ble_eq_true rfl) dX8_done_70 ⟨fun h => absurd (hk.symm.trans h) (by decide), rfl, by rw [hk, if_neg (by decide)]⟩
  refine lv_aload_n hx hb dX8_done_0 rfl (lv_at hl 0 rfl) ?_
  refine lv_iload_n hx hb dX8_done_1 rfl (lv_at hl 1 rfl) ?_
  refine k_Ri X (k_runV (As := [.int xu]) (rest := []) Z X (c_X8_isUser l E G S T o ad xu (by omega)) (k_cwV 1 Z.1.2.2.2.2 (inU_12 _ (List.mem_of_getElem? (i := 9) rfl)) (inU_12 _ (List.mem_of_getElem? (i := 10) rfl)) (inU_12 _ (List.mem_of_getElem? (i := 11) rfl)) (inU_1 _ (List.mem_of_getElem? (i := 5) rfl)) (inU_12 _ (List.mem_of_getElem? (i := 12) rfl)) rfl rfl (by decide +kernel) ⟨Nat.le_of_ble_eq_true rfl, Nat.le_of_ble_eq_true rfl⟩) (k_recv Z X ct_16 rfl) rfl hl.1 rfl (Nat.le_of_ble_eq_true rfl) dX8_done_2 ⟨Nat.le_of_ble_eq_true rfl, Nat.le_of_ble_eq_true rfl⟩) (fun r_2 ad1 ct1 H locs hp X => ?_)
  obtain ⟨rfl, rfl, rfl⟩ := hp
  refine lv_if_eq (tgt := 20) hx hb dX8_done_5 (by decide) (fun c_5 => ?_) (fun c_5 => ?_)
  · have c_5 : (inB xu (T.2 0 0)) = false := bI_0 c_5
    refine lv_iconst (v := 0) hx hb dX8_done_20 (by decide) ?_
    exact W.eq (congrArg (fun z => F0 m 21 ls (.int z :: [])) (bI_f (by simp [c_5]))) (M_21 H locs X)
  · have c_5 : (inB xu (T.2 0 0)) = true := bI_1 c_5
    refine lv_aload_n hx hb dX8_done_8 rfl (lv_at hl 0 rfl) ?_
    refine lv_iload_n hx hb dX8_done_9 rfl (lv_at hl 2 rfl) ?_
    refine k_Ri X (k_runV (As := [.int xt]) (rest := []) Z X (c_X8_isTask l E G S T o ad xt (by omega)) (k_cwV 1 Z.1.2.2.2.2 (inU_30 _ (List.mem_of_getElem? (i := 4) rfl)) (inU_30 _ (List.mem_of_getElem? (i := 5) rfl)) (inU_30 _ (List.mem_of_getElem? (i := 6) rfl)) (inU_1 _ (List.mem_of_getElem? (i := 5) rfl)) (inU_30 _ (List.mem_of_getElem? (i := 7) rfl)) rfl rfl (by decide +kernel) ⟨Nat.le_of_ble_eq_true rfl, Nat.le_of_ble_eq_true rfl⟩) (k_recv Z X ct_16 rfl) rfl hl.1 rfl (Nat.le_of_ble_eq_true rfl) dX8_done_10 ⟨Nat.le_of_ble_eq_true rfl, Nat.le_of_ble_eq_true rfl⟩) (fun r_10 ad1 ct1 H locs hp X => ?_)
    obtain ⟨rfl, rfl, rfl⟩ := hp
    refine lv_if_eq (tgt := 20) hx hb dX8_done_13 (by decide) (fun c_13 => ?_) (fun c_13 => ?_)
    · have c_13 : (inB xt (T.2 0 3)) = false := bI_0 c_13
      refine lv_iconst (v := 0) hx hb dX8_done_20 (by decide) ?_
      exact W.eq (congrArg (fun z => F0 m 21 ls (.int z :: [])) (bI_f (by simp [c_5, c_13]))) (M_21 H locs X)
    · have c_13 : (inB xt (T.2 0 3)) = true := bI_1 c_13
      refine lv_iconst (v := 1) hx hb dX8_done_16 (by decide) ?_
      refine lv_goto (tgt := 21) hx hb dX8_done_17 (by decide) ?_
      exact W.eq (congrArg (fun z => F0 m 21 ls (.int z :: [])) (bI_t (by simp [c_5, c_13]))) (M_21 H locs X)
theorem dX8_hold_0 : decode cX8_hold 0 = .ok (.aload_n 0, 1) := by decide +kernel
theorem dX8_hold_1 : decode cX8_hold 1 = .ok (.iload_n 1, 1) := by decide +kernel
theorem dX8_hold_2 : decode cX8_hold 2 = .ok (.invokestatic 121, 3) := by decide +kernel
theorem dX8_hold_5 : decode cX8_hold 5 = .ok (.ifCond .eq 7, 3) := by decide +kernel
theorem dX8_hold_8 : decode cX8_hold 8 = .ok (.iconst 0, 1) := by decide +kernel
theorem dX8_hold_9 : decode cX8_hold 9 = .ok (.goto 4, 3) := by decide +kernel
theorem dX8_hold_12 : decode cX8_hold 12 = .ok (.iconst 1, 1) := by decide +kernel
theorem dX8_hold_13 : decode cX8_hold 13 = .ok (.invokevirtual 111, 3) := by decide +kernel
theorem dX8_hold_16 : decode cX8_hold 16 = .ok (.ifCond .eq 5, 3) := by decide +kernel
theorem dX8_hold_19 : decode cX8_hold 19 = .ok (.iconst 0, 1) := by decide +kernel
theorem dX8_hold_20 : decode cX8_hold 20 = .ok (.ireturn, 1) := by decide +kernel
theorem dX8_hold_21 : decode cX8_hold 21 = .ok (.aload_n 0, 1) := by decide +kernel
theorem dX8_hold_22 : decode cX8_hold 22 = .ok (.getfield 19, 3) := by decide +kernel
theorem dX8_hold_25 : decode cX8_hold 25 = .ok (.iload_n 1, 1) := by decide +kernel
theorem dX8_hold_26 : decode cX8_hold 26 = .ok (.aload_n 0, 1) := by decide +kernel
theorem dX8_hold_27 : decode cX8_hold 27 = .ok (.getfield 19, 3) := by decide +kernel
theorem dX8_hold_30 : decode cX8_hold 30 = .ok (.iload_n 1, 1) := by decide +kernel
theorem dX8_hold_31 : decode cX8_hold 31 = .ok (.baload, 1) := by decide +kernel
theorem dX8_hold_32 : decode cX8_hold 32 = .ok (.ifCond .ne 7, 3) := by decide +kernel
theorem dX8_hold_35 : decode cX8_hold 35 = .ok (.iconst 1, 1) := by decide +kernel
theorem dX8_hold_36 : decode cX8_hold 36 = .ok (.goto 4, 3) := by decide +kernel
theorem dX8_hold_39 : decode cX8_hold 39 = .ok (.iconst 0, 1) := by decide +kernel
theorem dX8_hold_40 : decode cX8_hold 40 = .ok (.bastore, 1) := by decide +kernel
theorem dX8_hold_41 : decode cX8_hold 41 = .ok (.aload_n 0, 1) := by decide +kernel
theorem dX8_hold_42 : decode cX8_hold 42 = .ok (.getfield 19, 3) := by decide +kernel
theorem dX8_hold_45 : decode cX8_hold 45 = .ok (.iload_n 1, 1) := by decide +kernel
theorem dX8_hold_46 : decode cX8_hold 46 = .ok (.baload, 1) := by decide +kernel
theorem dX8_hold_47 : decode cX8_hold 47 = .ok (.ireturn, 1) := by decide +kernel
set_option maxHeartbeats 4000000 in
set_option maxRecDepth 100000 in
theorem c_X8_hold (l : Launch) (E : State) (G : kG) (S T : kSt) (o : Int64) (ad : kAd) (xc : Int32) (hT : okN T) : Met l yX8_hold (.code yX8_hold cX8_hold 2 (some .boolean) :: wsL_law) ({ frames := 4, cells := 0, slots := 0, locals := 90 } : Room) (va_Pc [.ref (ad 16 0), .int xc] (kPre E G ad (cto G S T o ad))) (kQi E G (fun r ad1 ct1 => (cHold xc = 0 → r = vHold T xc) ∧ ad = ad1 ∧ ct1 = cto G S (if cHold xc = 0 then oHold (sI T 24 0 0) xc else sI T 24 0 (cHold xc)) o ad)) 0 0 (kB E.heap.size) := by
  refine Met.ofW (cc := cX8_hold) (maxL := 2) (ret := (some .boolean)) (by decide) rfl ?_
  intro p e s m args below meth c s₁ B hml hv
  obtain ⟨rfl, hM, hK, hW0⟩ := hv
  have hlocks := B.notSynchronized
  have hr := B.returns
  have Z : kZ p m c cX8_hold 2 s _ wsL_law RX8 E G := ⟨⟨B.exec, B.bytes, hml, findClass_of_methodNamed B.named, fun w h => atoms_spec (ws := .code yX8_hold cX8_hold 2 (some .boolean) :: wsL_law) B.pre w (List.mem_cons_of_mem _ h)⟩, hM, hK⟩
  have hx := Z.1.1
  have hb := Z.1.2.1
  have X := kX.of hW0
  have hl := lv_entry ([.ref (ad 16 0), .int xc]) (n := 2) (Nat.le_of_ble_eq_true rfl)
  rw [lg_entry_eq]
  generalize (lg_sl ([.ref (ad 16 0), .int xc]) ++ List.replicate (2 - (lg_sl ([.ref (ad 16 0), .int xc])).length) Slot.unset).toArray = ls at hl ⊢
  have hl : lv_has ls 2 [(0, .ref (ad 16 0)), (1, .int xc)] := hl
  have hT0 := hT
  obtain ⟨hT1, hT2, hT3, hT4, hT5, hT6, hT7⟩ := hT0
  refine lv_aload_n hx hb dX8_hold_0 rfl (lv_at hl 0 rfl) ?_
  refine lv_iload_n hx hb dX8_hold_1 rfl (lv_at hl 1 rfl) ?_
  refine k_Ri X (k_runS (As := [.int xc]) (rest := [.ref (ad 16 0)]) Z X (c_X8_isChannel l E G S T o ad xc) (k_cwS 1 Z.1.2.2.2.2 (inU_14 _ (List.mem_of_getElem? (i := 15) rfl)) (inU_14 _ (List.mem_of_getElem? (i := 16) rfl)) (inU_1 _ (List.mem_of_getElem? (i := 5) rfl)) (inU_14 _ (List.mem_of_getElem? (i := 17) rfl)) rfl rfl (by decide +kernel) ⟨Nat.le_of_ble_eq_true rfl, Nat.le_of_ble_eq_true rfl⟩) rfl hl.1 rfl (Nat.le_of_ble_eq_true rfl) dX8_hold_2 ⟨Nat.le_of_ble_eq_true rfl, Nat.le_of_ble_eq_true rfl⟩) (fun r_2 ad1 ct1 H locs hp X => ?_)
  obtain ⟨rfl, rfl, rfl⟩ := hp
  refine lv_if_eq (tgt := 12) hx hb dX8_hold_5 (by decide) (fun c_5 => ?_) (fun c_5 => ?_)
  · have c_5 : inB xc 6 = false := (chan_inB xc).symm.trans (bI_0 c_5)
    refine lv_iconst (v := 1) hx hb dX8_hold_12 (by decide) ?_
    refine k_Ri X (k_runV (As := [.int 1]) (rest := []) Z X (c_X8_fails l E G S T o ad 1) (k_cwV 1 Z.1.2.2.2.2 (inU_9 _ (List.mem_of_getElem? (i := 2) rfl)) (inU_9 _ (List.mem_of_getElem? (i := 3) rfl)) (inU_9 _ (List.mem_of_getElem? (i := 4) rfl)) (inU_1 _ (List.mem_of_getElem? (i := 5) rfl)) (inU_9 _ (List.mem_of_getElem? (i := 5) rfl)) rfl rfl (by decide +kernel) ⟨Nat.le_of_ble_eq_true rfl, Nat.le_of_ble_eq_true rfl⟩) (k_recv Z X ct_16 rfl) rfl hl.1 rfl (Nat.le_of_ble_eq_true rfl) dX8_hold_13 ⟨Nat.le_of_ble_eq_true rfl, Nat.le_of_ble_eq_true rfl⟩) (fun r_13 ad1 ct1 H locs hp X => ?_)
    obtain ⟨rfl, rfl, rfl⟩ := hp
    refine lv_topi (fun x_13 e_13 => ?_)
    obtain rfl : x_13 = 1 := e_13.trans (by decide)
    refine lv_if_eq (tgt := 21) hx hb dX8_hold_16 (by decide) (fun c_16 => ?_) (fun c_16 => ?_)
    · exact absurd c_16 (by decide)
    · refine lv_iconst (v := 0) hx hb dX8_hold_19 (by decide) ?_
      have hk : cHold xc = 1 := by simp [cHold, c_5, c_16]
      exact k_iret Z X hr hlocks rfl (Nat.le_of_ble_eq_true rfl) (Nat.le_of_ble_eq_true rfl) dX8_hold_20 ⟨fun h => absurd (hk.symm.trans h) (by decide), rfl, by rw [hk, if_neg (by decide)]⟩
  · have c_5 : inB xc 6 = true := (chan_inB xc).symm.trans (bI_1 c_5)
    obtain ⟨jc, hjc, hxc⟩ := inB_of c_5 (by decide)
    subst hxc
    have hcc : cl (nI jc) = jc := nI_clamp (by omega)
    refine lv_iconst (v := 0) hx hb dX8_hold_8 (by decide) ?_
    refine lv_goto (tgt := 13) hx hb dX8_hold_9 (by decide) ?_
    refine k_Ri X (k_runV (As := [.int 0]) (rest := []) Z X (c_X8_fails l E G S T o ad 0) (k_cwV 1 Z.1.2.2.2.2 (inU_9 _ (List.mem_of_getElem? (i := 2) rfl)) (inU_9 _ (List.mem_of_getElem? (i := 3) rfl)) (inU_9 _ (List.mem_of_getElem? (i := 4) rfl)) (inU_1 _ (List.mem_of_getElem? (i := 5) rfl)) (inU_9 _ (List.mem_of_getElem? (i := 5) rfl)) rfl rfl (by decide +kernel) ⟨Nat.le_of_ble_eq_true rfl, Nat.le_of_ble_eq_true rfl⟩) (k_recv Z X ct_16 rfl) rfl hl.1 rfl (Nat.le_of_ble_eq_true rfl) dX8_hold_13 ⟨Nat.le_of_ble_eq_true rfl, Nat.le_of_ble_eq_true rfl⟩) (fun r_13 ad1 ct1 H locs hp X => ?_)
    obtain ⟨rfl, rfl, rfl⟩ := hp
    refine lv_topi (fun x_13 e_13 => ?_)
    obtain rfl : x_13 = 0 := e_13.trans (by decide)
    refine lv_if_eq (tgt := 21) hx hb dX8_hold_16 (by decide) (fun c_16 => ?_) (fun c_16 => ?_)
    · refine lv_aload_n hx hb dX8_hold_21 rfl (lv_at hl 0 rfl) ?_
      refine k_get (index := 19) (j := 5) (ad := ad) (k := 16) (i := 0) Z X ct_16 inlX8 rfl (by decide) (inU_6 _ (List.mem_of_getElem? (i := 10) rfl)) (fun _ h => h) (v := .ref (ad 17 3)) rfl dX8_hold_22 ?_
      refine lv_iload_n hx hb dX8_hold_25 rfl (lv_at hl 1 rfl) ?_
      have M_40 : ∀ (H : Heap) (locs : List Loc), kX E G s H locs ad (cto G S (sI T 24 0 0) o ad) → W p l e (headSpec (Cond.code yX8_hold cX8_hold 2 (some .boolean) :: wsL_law) ({ frames := 4, cells := 0, slots := 0, locals := 90 } : Room)).room s m ([.ref (ad 16 0), .int (nI jc)] : List Value).toArray below meth c H locs 0 0 (MQ below (kQi E G (fun r ad1 ct1 => (cHold (nI jc) = 0 → r = vHold T (nI jc)) ∧ ad = ad1 ∧ ct1 = cto G S (if cHold (nI jc) = 0 then oHold (sI T 24 0 0) (nI jc) else sI T 24 0 (cHold (nI jc))) o ad)) ([.ref (ad 16 0), .int (nI jc)] : List Value).toArray s 0 0 (kB E.heap.size)) (F0 m 40 ls [.int (bI (decide (T.1 4 jc = 0))), .int (nI jc), .ref (ad 17 3)]) := by
        intro H locs X
        refine k_zst (ad := ad) (k := 17) (i := 3) Z X ct_17_3 (vp_in_nI (by first | assumption | omega) (by decide)) bI_01 dX8_hold_40 (fun H locs X => ?_)
        have X : kX E G s H locs ad (cto G S (sI (sI T 24 0 0) 4 jc (bI (decide (T.1 4 jc = 0)))) o ad) := X.eq (st_17_3 _ _ (by omega))
        refine lv_aload_n hx hb dX8_hold_41 rfl (lv_at hl 0 rfl) ?_
        refine k_get (index := 19) (j := 5) (ad := ad) (k := 16) (i := 0) Z X ct_16 inlX8 rfl (by decide) (inU_6 _ (List.mem_of_getElem? (i := 10) rfl)) (fun _ h => h) (v := .ref (ad 17 3)) rfl dX8_hold_42 ?_
        refine lv_iload_n hx hb dX8_hold_45 rfl (lv_at hl 1 rfl) ?_
        refine k_zld (ad := ad) (k := 17) (i := 3) Z X ct_17_3 (vp_in_nI (by first | assumption | omega) (by decide)) dX8_hold_46 ?_
        refine lv_topi (fun x_46 e_46 => ?_)
        obtain rfl : x_46 = bI (decide (T.1 4 jc = 0)) := e_46.trans (by first | (simp only [nI_clamp (show jc < 2 ^ 31 by omega)]; done) | (simp only [nI_clamp (show jc < 2 ^ 31 by omega)]; rfl) | (simp only [nI_clamp (show jc < 2 ^ 31 by omega)]; simp [sI, sN]; done))
        have hk : cHold (nI jc) = 0 := by simp [cHold, hcc, c_5, c_16]
        exact k_iret Z X hr hlocks bI_nar (Nat.le_of_ble_eq_true rfl) (Nat.le_of_ble_eq_true rfl) dX8_hold_47 ⟨fun _ => by rw [vHold, hcc], rfl, (congrArg (fun z => cto G S z o ad) (show (sI (sI T 24 0 0) 4 jc (bI (decide (T.1 4 jc = 0)))) = oHold (sI T 24 0 0) (nI jc) from by simp only [oHold, vHold, hcc]; rfl)).trans (by rw [if_pos hk])⟩
      refine lv_aload_n hx hb dX8_hold_26 rfl (lv_at hl 0 rfl) ?_
      refine k_get (index := 19) (j := 5) (ad := ad) (k := 16) (i := 0) Z X ct_16 inlX8 rfl (by decide) (inU_6 _ (List.mem_of_getElem? (i := 10) rfl)) (fun _ h => h) (v := .ref (ad 17 3)) rfl dX8_hold_27 ?_
      refine lv_iload_n hx hb dX8_hold_30 rfl (lv_at hl 1 rfl) ?_
      refine k_zld (ad := ad) (k := 17) (i := 3) Z X ct_17_3 (vp_in_nI (by first | assumption | omega) (by decide)) dX8_hold_31 ?_
      refine lv_topi (fun x_31 e_31 => ?_)
      obtain rfl : x_31 = T.1 4 jc := e_31.trans (by first | (simp only [nI_clamp (show jc < 2 ^ 31 by omega)]; done) | (simp only [nI_clamp (show jc < 2 ^ 31 by omega)]; rfl) | (simp only [nI_clamp (show jc < 2 ^ 31 by omega)]; simp [sI, sN]; done))
      refine lv_if_ne (tgt := 39) hx hb dX8_hold_32 (by decide) (fun c_32 => ?_) (fun c_32 => ?_)
      · refine lv_iconst (v := 0) hx hb dX8_hold_39 (by decide) ?_
        exact W.eq (congrArg (fun z => F0 m 40 ls (.int z :: [.int (nI jc), .ref (ad 17 3)])) (bI_f (by simp [c_32]))) (M_40 H locs X)
      · refine lv_iconst (v := 1) hx hb dX8_hold_35 (by decide) ?_
        refine lv_goto (tgt := 40) hx hb dX8_hold_36 (by decide) ?_
        exact W.eq (congrArg (fun z => F0 m 40 ls (.int z :: [.int (nI jc), .ref (ad 17 3)])) (bI_t (by simp [c_32]))) (M_40 H locs X)
    · exact absurd c_16 (by decide)
theorem dX8_left_0 : decode cX8_left 0 = .ok (.aload_n 0, 1) := by decide +kernel
theorem dX8_left_1 : decode cX8_left 1 = .ok (.iload_n 1, 1) := by decide +kernel
theorem dX8_left_2 : decode cX8_left 2 = .ok (.invokestatic 121, 3) := by decide +kernel
theorem dX8_left_5 : decode cX8_left 5 = .ok (.ifCond .eq 7, 3) := by decide +kernel
theorem dX8_left_8 : decode cX8_left 8 = .ok (.iconst 0, 1) := by decide +kernel
theorem dX8_left_9 : decode cX8_left 9 = .ok (.goto 4, 3) := by decide +kernel
theorem dX8_left_12 : decode cX8_left 12 = .ok (.iconst 1, 1) := by decide +kernel
theorem dX8_left_13 : decode cX8_left 13 = .ok (.invokevirtual 111, 3) := by decide +kernel
theorem dX8_left_16 : decode cX8_left 16 = .ok (.ifCond .eq 7, 3) := by decide +kernel
theorem dX8_left_19 : decode cX8_left 19 = .ok (.iconst 0, 1) := by decide +kernel
theorem dX8_left_20 : decode cX8_left 20 = .ok (.goto 9, 3) := by decide +kernel
theorem dX8_left_23 : decode cX8_left 23 = .ok (.aload_n 0, 1) := by decide +kernel
theorem dX8_left_24 : decode cX8_left 24 = .ok (.getfield 16, 3) := by decide +kernel
theorem dX8_left_27 : decode cX8_left 27 = .ok (.iload_n 1, 1) := by decide +kernel
theorem dX8_left_28 : decode cX8_left 28 = .ok (.iaload, 1) := by decide +kernel
theorem dX8_left_29 : decode cX8_left 29 = .ok (.ireturn, 1) := by decide +kernel
set_option maxHeartbeats 4000000 in
set_option maxRecDepth 100000 in
theorem c_X8_left (l : Launch) (E : State) (G : kG) (S T : kSt) (o : Int64) (ad : kAd) (xc : Int32) (hT : okN T) : Met l yX8_left (.code yX8_left cX8_left 2 (some .int) :: wsL_law) ({ frames := 4, cells := 0, slots := 0, locals := 90 } : Room) (va_Pc [.ref (ad 16 0), .int xc] (kPre E G ad (cto G S T o ad))) (kQi E G (fun r ad1 ct1 => (cLeft xc = 0 → r = T.1 3 (cl xc)) ∧ ad = ad1 ∧ ct1 = cto G S (if cLeft xc = 0 then (sI T 24 0 0) else sI T 24 0 (cLeft xc)) o ad)) 0 0 (kB E.heap.size) := by
  refine Met.ofW (cc := cX8_left) (maxL := 2) (ret := (some .int)) (by decide) rfl ?_
  intro p e s m args below meth c s₁ B hml hv
  obtain ⟨rfl, hM, hK, hW0⟩ := hv
  have hlocks := B.notSynchronized
  have hr := B.returns
  have Z : kZ p m c cX8_left 2 s _ wsL_law RX8 E G := ⟨⟨B.exec, B.bytes, hml, findClass_of_methodNamed B.named, fun w h => atoms_spec (ws := .code yX8_left cX8_left 2 (some .int) :: wsL_law) B.pre w (List.mem_cons_of_mem _ h)⟩, hM, hK⟩
  have hx := Z.1.1
  have hb := Z.1.2.1
  have X := kX.of hW0
  have hl := lv_entry ([.ref (ad 16 0), .int xc]) (n := 2) (Nat.le_of_ble_eq_true rfl)
  rw [lg_entry_eq]
  generalize (lg_sl ([.ref (ad 16 0), .int xc]) ++ List.replicate (2 - (lg_sl ([.ref (ad 16 0), .int xc])).length) Slot.unset).toArray = ls at hl ⊢
  have hl : lv_has ls 2 [(0, .ref (ad 16 0)), (1, .int xc)] := hl
  have hT0 := hT
  obtain ⟨hT1, hT2, hT3, hT4, hT5, hT6, hT7⟩ := hT0
  refine lv_aload_n hx hb dX8_left_0 rfl (lv_at hl 0 rfl) ?_
  refine lv_iload_n hx hb dX8_left_1 rfl (lv_at hl 1 rfl) ?_
  refine k_Ri X (k_runS (As := [.int xc]) (rest := [.ref (ad 16 0)]) Z X (c_X8_isChannel l E G S T o ad xc) (k_cwS 1 Z.1.2.2.2.2 (inU_14 _ (List.mem_of_getElem? (i := 15) rfl)) (inU_14 _ (List.mem_of_getElem? (i := 16) rfl)) (inU_1 _ (List.mem_of_getElem? (i := 5) rfl)) (inU_14 _ (List.mem_of_getElem? (i := 17) rfl)) rfl rfl (by decide +kernel) ⟨Nat.le_of_ble_eq_true rfl, Nat.le_of_ble_eq_true rfl⟩) rfl hl.1 rfl (Nat.le_of_ble_eq_true rfl) dX8_left_2 ⟨Nat.le_of_ble_eq_true rfl, Nat.le_of_ble_eq_true rfl⟩) (fun r_2 ad1 ct1 H locs hp X => ?_)
  obtain ⟨rfl, rfl, rfl⟩ := hp
  refine lv_if_eq (tgt := 12) hx hb dX8_left_5 (by decide) (fun c_5 => ?_) (fun c_5 => ?_)
  · have c_5 : inB xc 6 = false := (chan_inB xc).symm.trans (bI_0 c_5)
    refine lv_iconst (v := 1) hx hb dX8_left_12 (by decide) ?_
    refine k_Ri X (k_runV (As := [.int 1]) (rest := []) Z X (c_X8_fails l E G S T o ad 1) (k_cwV 1 Z.1.2.2.2.2 (inU_9 _ (List.mem_of_getElem? (i := 2) rfl)) (inU_9 _ (List.mem_of_getElem? (i := 3) rfl)) (inU_9 _ (List.mem_of_getElem? (i := 4) rfl)) (inU_1 _ (List.mem_of_getElem? (i := 5) rfl)) (inU_9 _ (List.mem_of_getElem? (i := 5) rfl)) rfl rfl (by decide +kernel) ⟨Nat.le_of_ble_eq_true rfl, Nat.le_of_ble_eq_true rfl⟩) (k_recv Z X ct_16 rfl) rfl hl.1 rfl (Nat.le_of_ble_eq_true rfl) dX8_left_13 ⟨Nat.le_of_ble_eq_true rfl, Nat.le_of_ble_eq_true rfl⟩) (fun r_13 ad1 ct1 H locs hp X => ?_)
    obtain ⟨rfl, rfl, rfl⟩ := hp
    refine lv_topi (fun x_13 e_13 => ?_)
    obtain rfl : x_13 = 1 := e_13.trans (by decide)
    refine lv_if_eq (tgt := 23) hx hb dX8_left_16 (by decide) (fun c_16 => ?_) (fun c_16 => ?_)
    · exact absurd c_16 (by decide)
    · refine lv_iconst (v := 0) hx hb dX8_left_19 (by decide) ?_
      refine lv_goto (tgt := 29) hx hb dX8_left_20 (by decide) ?_
      have hk : cLeft xc = 1 := by simp [cLeft, c_5, c_16]
      exact k_iret Z X hr hlocks rfl (Nat.le_of_ble_eq_true rfl) (Nat.le_of_ble_eq_true rfl) dX8_left_29 ⟨fun h => absurd (hk.symm.trans h) (by decide), rfl, by rw [hk, if_neg (by decide)]⟩
  · have c_5 : inB xc 6 = true := (chan_inB xc).symm.trans (bI_1 c_5)
    obtain ⟨jc, hjc, hxc⟩ := inB_of c_5 (by decide)
    subst hxc
    have hcc : cl (nI jc) = jc := nI_clamp (by omega)
    refine lv_iconst (v := 0) hx hb dX8_left_8 (by decide) ?_
    refine lv_goto (tgt := 13) hx hb dX8_left_9 (by decide) ?_
    refine k_Ri X (k_runV (As := [.int 0]) (rest := []) Z X (c_X8_fails l E G S T o ad 0) (k_cwV 1 Z.1.2.2.2.2 (inU_9 _ (List.mem_of_getElem? (i := 2) rfl)) (inU_9 _ (List.mem_of_getElem? (i := 3) rfl)) (inU_9 _ (List.mem_of_getElem? (i := 4) rfl)) (inU_1 _ (List.mem_of_getElem? (i := 5) rfl)) (inU_9 _ (List.mem_of_getElem? (i := 5) rfl)) rfl rfl (by decide +kernel) ⟨Nat.le_of_ble_eq_true rfl, Nat.le_of_ble_eq_true rfl⟩) (k_recv Z X ct_16 rfl) rfl hl.1 rfl (Nat.le_of_ble_eq_true rfl) dX8_left_13 ⟨Nat.le_of_ble_eq_true rfl, Nat.le_of_ble_eq_true rfl⟩) (fun r_13 ad1 ct1 H locs hp X => ?_)
    obtain ⟨rfl, rfl, rfl⟩ := hp
    refine lv_topi (fun x_13 e_13 => ?_)
    obtain rfl : x_13 = 0 := e_13.trans (by decide)
    refine lv_if_eq (tgt := 23) hx hb dX8_left_16 (by decide) (fun c_16 => ?_) (fun c_16 => ?_)
    · refine lv_aload_n hx hb dX8_left_23 rfl (lv_at hl 0 rfl) ?_
      refine k_get (index := 16) (j := 4) (ad := ad) (k := 16) (i := 0) Z X ct_16 inlX8 rfl (by decide) (inU_6 _ (List.mem_of_getElem? (i := 8) rfl)) (fun _ h => h) (v := .ref (ad 17 2)) rfl dX8_left_24 ?_
      refine lv_iload_n hx hb dX8_left_27 rfl (lv_at hl 1 rfl) ?_
      refine k_ild (ad := ad) (k := 17) (i := 2) Z X ct_17_2 (vp_in_nI (by first | assumption | omega) (by decide)) dX8_left_28 ?_
      refine lv_topi (fun x_28 e_28 => ?_)
      obtain rfl : x_28 = T.1 3 jc := e_28.trans (by first | (simp only [nI_clamp (show jc < 2 ^ 31 by omega)]; done) | (simp only [nI_clamp (show jc < 2 ^ 31 by omega)]; rfl) | (simp only [nI_clamp (show jc < 2 ^ 31 by omega)]; simp [sI, sN]; done))
      have hk : cLeft (nI jc) = 0 := by simp [cLeft, hcc, c_5, c_16]
      exact k_iret Z X hr hlocks rfl (Nat.le_of_ble_eq_true rfl) (Nat.le_of_ble_eq_true rfl) dX8_left_29 ⟨fun _ => by rw [hcc], rfl, (congrArg (fun z => cto G S z o ad) (show (sI T 24 0 0) = (sI T 24 0 0) from rfl)).trans (by rw [if_pos hk])⟩
    · exact absurd c_16 (by decide)
theorem dX8_taskOf_0 : decode cX8_taskOf 0 = .ok (.aload_n 0, 1) := by decide +kernel
theorem dX8_taskOf_1 : decode cX8_taskOf 1 = .ok (.aload_n 0, 1) := by decide +kernel
theorem dX8_taskOf_2 : decode cX8_taskOf 2 = .ok (.iload_n 1, 1) := by decide +kernel
theorem dX8_taskOf_3 : decode cX8_taskOf 3 = .ok (.invokevirtual 135, 3) := by decide +kernel
theorem dX8_taskOf_6 : decode cX8_taskOf 6 = .ok (.ifCond .eq 7, 3) := by decide +kernel
theorem dX8_taskOf_9 : decode cX8_taskOf 9 = .ok (.iconst 0, 1) := by decide +kernel
theorem dX8_taskOf_10 : decode cX8_taskOf 10 = .ok (.goto 4, 3) := by decide +kernel
theorem dX8_taskOf_13 : decode cX8_taskOf 13 = .ok (.iconst 1, 1) := by decide +kernel
theorem dX8_taskOf_14 : decode cX8_taskOf 14 = .ok (.invokevirtual 111, 3) := by decide +kernel
theorem dX8_taskOf_17 : decode cX8_taskOf 17 = .ok (.ifCond .eq 7, 3) := by decide +kernel
theorem dX8_taskOf_20 : decode cX8_taskOf 20 = .ok (.iconst 0, 1) := by decide +kernel
theorem dX8_taskOf_21 : decode cX8_taskOf 21 = .ok (.goto 9, 3) := by decide +kernel
theorem dX8_taskOf_24 : decode cX8_taskOf 24 = .ok (.aload_n 0, 1) := by decide +kernel
theorem dX8_taskOf_25 : decode cX8_taskOf 25 = .ok (.getfield 71, 3) := by decide +kernel
theorem dX8_taskOf_28 : decode cX8_taskOf 28 = .ok (.iload_n 1, 1) := by decide +kernel
theorem dX8_taskOf_29 : decode cX8_taskOf 29 = .ok (.iaload, 1) := by decide +kernel
theorem dX8_taskOf_30 : decode cX8_taskOf 30 = .ok (.ireturn, 1) := by decide +kernel
set_option maxHeartbeats 4000000 in
set_option maxRecDepth 100000 in
theorem c_X8_taskOf (l : Launch) (E : State) (G : kG) (S T : kSt) (o : Int64) (ad : kAd) (xt : Int32) (hT : okN T) : Met l yX8_taskOf (.code yX8_taskOf cX8_taskOf 2 (some .int) :: wsL_law) ({ frames := 4, cells := 0, slots := 0, locals := 90 } : Room) (va_Pc [.ref (ad 16 0), .int xt] (kPre E G ad (cto G S T o ad))) (kQi E G (fun r ad1 ct1 => (cTaskOf T xt = 0 → r = T.1 14 (cl xt)) ∧ ad = ad1 ∧ ct1 = cto G S (if cTaskOf T xt = 0 then (sI T 24 0 0) else sI T 24 0 (cTaskOf T xt)) o ad)) 0 0 (kB E.heap.size) := by
  refine Met.ofW (cc := cX8_taskOf) (maxL := 2) (ret := (some .int)) (by decide) rfl ?_
  intro p e s m args below meth c s₁ B hml hv
  obtain ⟨rfl, hM, hK, hW0⟩ := hv
  have hlocks := B.notSynchronized
  have hr := B.returns
  have Z : kZ p m c cX8_taskOf 2 s _ wsL_law RX8 E G := ⟨⟨B.exec, B.bytes, hml, findClass_of_methodNamed B.named, fun w h => atoms_spec (ws := .code yX8_taskOf cX8_taskOf 2 (some .int) :: wsL_law) B.pre w (List.mem_cons_of_mem _ h)⟩, hM, hK⟩
  have hx := Z.1.1
  have hb := Z.1.2.1
  have X := kX.of hW0
  have hl := lv_entry ([.ref (ad 16 0), .int xt]) (n := 2) (Nat.le_of_ble_eq_true rfl)
  rw [lg_entry_eq]
  generalize (lg_sl ([.ref (ad 16 0), .int xt]) ++ List.replicate (2 - (lg_sl ([.ref (ad 16 0), .int xt])).length) Slot.unset).toArray = ls at hl ⊢
  have hl : lv_has ls 2 [(0, .ref (ad 16 0)), (1, .int xt)] := hl
  have hT0 := hT
  obtain ⟨hT1, hT2, hT3, hT4, hT5, hT6, hT7⟩ := hT0
  refine lv_aload_n hx hb dX8_taskOf_0 rfl (lv_at hl 0 rfl) ?_
  refine lv_aload_n hx hb dX8_taskOf_1 rfl (lv_at hl 0 rfl) ?_
  refine lv_iload_n hx hb dX8_taskOf_2 rfl (lv_at hl 1 rfl) ?_
  refine k_Ri X (k_runV (As := [.int xt]) (rest := [.ref (ad 16 0)]) Z X (c_X8_isTask l E G S T o ad xt (by omega)) (k_cwV 1 Z.1.2.2.2.2 (inU_30 _ (List.mem_of_getElem? (i := 4) rfl)) (inU_30 _ (List.mem_of_getElem? (i := 5) rfl)) (inU_30 _ (List.mem_of_getElem? (i := 6) rfl)) (inU_1 _ (List.mem_of_getElem? (i := 5) rfl)) (inU_30 _ (List.mem_of_getElem? (i := 7) rfl)) rfl rfl (by decide +kernel) ⟨Nat.le_of_ble_eq_true rfl, Nat.le_of_ble_eq_true rfl⟩) (k_recv Z X ct_16 rfl) rfl hl.1 rfl (Nat.le_of_ble_eq_true rfl) dX8_taskOf_3 ⟨Nat.le_of_ble_eq_true rfl, Nat.le_of_ble_eq_true rfl⟩) (fun r_3 ad1 ct1 H locs hp X => ?_)
  obtain ⟨rfl, rfl, rfl⟩ := hp
  refine lv_if_eq (tgt := 13) hx hb dX8_taskOf_6 (by decide) (fun c_6 => ?_) (fun c_6 => ?_)
  · have c_6 : inB xt (T.2 0 3) = false := bI_0 c_6
    refine lv_iconst (v := 1) hx hb dX8_taskOf_13 (by decide) ?_
    refine k_Ri X (k_runV (As := [.int 1]) (rest := []) Z X (c_X8_fails l E G S T o ad 1) (k_cwV 1 Z.1.2.2.2.2 (inU_9 _ (List.mem_of_getElem? (i := 2) rfl)) (inU_9 _ (List.mem_of_getElem? (i := 3) rfl)) (inU_9 _ (List.mem_of_getElem? (i := 4) rfl)) (inU_1 _ (List.mem_of_getElem? (i := 5) rfl)) (inU_9 _ (List.mem_of_getElem? (i := 5) rfl)) rfl rfl (by decide +kernel) ⟨Nat.le_of_ble_eq_true rfl, Nat.le_of_ble_eq_true rfl⟩) (k_recv Z X ct_16 rfl) rfl hl.1 rfl (Nat.le_of_ble_eq_true rfl) dX8_taskOf_14 ⟨Nat.le_of_ble_eq_true rfl, Nat.le_of_ble_eq_true rfl⟩) (fun r_14 ad1 ct1 H locs hp X => ?_)
    obtain ⟨rfl, rfl, rfl⟩ := hp
    refine lv_topi (fun x_14 e_14 => ?_)
    obtain rfl : x_14 = 1 := e_14.trans (by decide)
    refine lv_if_eq (tgt := 24) hx hb dX8_taskOf_17 (by decide) (fun c_17 => ?_) (fun c_17 => ?_)
    · exact absurd c_17 (by decide)
    · refine lv_iconst (v := 0) hx hb dX8_taskOf_20 (by decide) ?_
      refine lv_goto (tgt := 30) hx hb dX8_taskOf_21 (by decide) ?_
      have hk : cTaskOf T xt = 1 := by simp [cTaskOf, c_6, c_17]
      exact k_iret Z X hr hlocks rfl (Nat.le_of_ble_eq_true rfl) (Nat.le_of_ble_eq_true rfl) dX8_taskOf_30 ⟨fun h => absurd (hk.symm.trans h) (by decide), rfl, by rw [hk, if_neg (by decide)]⟩
  · have c_6 : inB xt (T.2 0 3) = true := bI_1 c_6
    obtain ⟨jt, hjt, hxt⟩ := inB_of c_6 (by omega)
    subst hxt
    have hct : cl (nI jt) = jt := nI_clamp (by omega)
    refine lv_iconst (v := 0) hx hb dX8_taskOf_9 (by decide) ?_
    refine lv_goto (tgt := 14) hx hb dX8_taskOf_10 (by decide) ?_
    refine k_Ri X (k_runV (As := [.int 0]) (rest := []) Z X (c_X8_fails l E G S T o ad 0) (k_cwV 1 Z.1.2.2.2.2 (inU_9 _ (List.mem_of_getElem? (i := 2) rfl)) (inU_9 _ (List.mem_of_getElem? (i := 3) rfl)) (inU_9 _ (List.mem_of_getElem? (i := 4) rfl)) (inU_1 _ (List.mem_of_getElem? (i := 5) rfl)) (inU_9 _ (List.mem_of_getElem? (i := 5) rfl)) rfl rfl (by decide +kernel) ⟨Nat.le_of_ble_eq_true rfl, Nat.le_of_ble_eq_true rfl⟩) (k_recv Z X ct_16 rfl) rfl hl.1 rfl (Nat.le_of_ble_eq_true rfl) dX8_taskOf_14 ⟨Nat.le_of_ble_eq_true rfl, Nat.le_of_ble_eq_true rfl⟩) (fun r_14 ad1 ct1 H locs hp X => ?_)
    obtain ⟨rfl, rfl, rfl⟩ := hp
    refine lv_topi (fun x_14 e_14 => ?_)
    obtain rfl : x_14 = 0 := e_14.trans (by decide)
    refine lv_if_eq (tgt := 24) hx hb dX8_taskOf_17 (by decide) (fun c_17 => ?_) (fun c_17 => ?_)
    · refine lv_aload_n hx hb dX8_taskOf_24 rfl (lv_at hl 0 rfl) ?_
      refine k_get (index := 71) (j := 25) (ad := ad) (k := 16) (i := 0) Z X ct_16 inlX8 rfl (by decide) (inU_7 _ (List.mem_of_getElem? (i := 3) rfl)) (fun _ h => h) (v := .ref (ad 17 20)) rfl dX8_taskOf_25 ?_
      refine lv_iload_n hx hb dX8_taskOf_28 rfl (lv_at hl 1 rfl) ?_
      refine k_ild (ad := ad) (k := 17) (i := 20) Z X ct_17_20 (vp_in_nI (by first | assumption | omega) (by decide)) dX8_taskOf_29 ?_
      refine lv_topi (fun x_29 e_29 => ?_)
      obtain rfl : x_29 = T.1 14 jt := e_29.trans (by first | (simp only [nI_clamp (show jt < 2 ^ 31 by omega)]; done) | (simp only [nI_clamp (show jt < 2 ^ 31 by omega)]; rfl) | (simp only [nI_clamp (show jt < 2 ^ 31 by omega)]; simp [sI, sN]; done))
      have hk : cTaskOf T (nI jt) = 0 := by simp [cTaskOf, hct, c_6, c_17]
      exact k_iret Z X hr hlocks rfl (Nat.le_of_ble_eq_true rfl) (Nat.le_of_ble_eq_true rfl) dX8_taskOf_30 ⟨fun _ => by rw [hct], rfl, (congrArg (fun z => cto G S z o ad) (show (sI T 24 0 0) = (sI T 24 0 0) from rfl)).trans (by rw [if_pos hk])⟩
    · exact absurd c_17 (by decide)
theorem dX8_isApproved_0 : decode cX8_isApproved 0 = .ok (.aload_n 0, 1) := by decide +kernel
theorem dX8_isApproved_1 : decode cX8_isApproved 1 = .ok (.aload_n 0, 1) := by decide +kernel
theorem dX8_isApproved_2 : decode cX8_isApproved 2 = .ok (.iload_n 1, 1) := by decide +kernel
theorem dX8_isApproved_3 : decode cX8_isApproved 3 = .ok (.invokevirtual 125, 3) := by decide +kernel
theorem dX8_isApproved_6 : decode cX8_isApproved 6 = .ok (.ifCond .ne 7, 3) := by decide +kernel
theorem dX8_isApproved_9 : decode cX8_isApproved 9 = .ok (.iconst 1, 1) := by decide +kernel
theorem dX8_isApproved_10 : decode cX8_isApproved 10 = .ok (.goto 18, 3) := by decide +kernel
theorem dX8_isApproved_13 : decode cX8_isApproved 13 = .ok (.iload_n 2, 1) := by decide +kernel
theorem dX8_isApproved_14 : decode cX8_isApproved 14 = .ok (.iconst 1, 1) := by decide +kernel
theorem dX8_isApproved_15 : decode cX8_isApproved 15 = .ok (.ldc 120, 2) := by decide +kernel
theorem dX8_isApproved_17 : decode cX8_isApproved 17 = .ok (.invokestatic 84, 3) := by decide +kernel
theorem dX8_isApproved_20 : decode cX8_isApproved 20 = .ok (.ifCond .eq 7, 3) := by decide +kernel
theorem dX8_isApproved_23 : decode cX8_isApproved 23 = .ok (.iconst 0, 1) := by decide +kernel
theorem dX8_isApproved_24 : decode cX8_isApproved 24 = .ok (.goto 4, 3) := by decide +kernel
theorem dX8_isApproved_27 : decode cX8_isApproved 27 = .ok (.iconst 2, 1) := by decide +kernel
theorem dX8_isApproved_28 : decode cX8_isApproved 28 = .ok (.invokevirtual 111, 3) := by decide +kernel
theorem dX8_isApproved_31 : decode cX8_isApproved 31 = .ok (.ifCond .ne 16, 3) := by decide +kernel
theorem dX8_isApproved_34 : decode cX8_isApproved 34 = .ok (.aload_n 0, 1) := by decide +kernel
theorem dX8_isApproved_35 : decode cX8_isApproved 35 = .ok (.iload_n 1, 1) := by decide +kernel
theorem dX8_isApproved_36 : decode cX8_isApproved 36 = .ok (.iload_n 2, 1) := by decide +kernel
theorem dX8_isApproved_37 : decode cX8_isApproved 37 = .ok (.invokevirtual 105, 3) := by decide +kernel
theorem dX8_isApproved_40 : decode cX8_isApproved 40 = .ok (.ifCond .eq 7, 3) := by decide +kernel
theorem dX8_isApproved_43 : decode cX8_isApproved 43 = .ok (.iconst 1, 1) := by decide +kernel
theorem dX8_isApproved_44 : decode cX8_isApproved 44 = .ok (.goto 4, 3) := by decide +kernel
theorem dX8_isApproved_47 : decode cX8_isApproved 47 = .ok (.iconst 0, 1) := by decide +kernel
theorem dX8_isApproved_48 : decode cX8_isApproved 48 = .ok (.ireturn, 1) := by decide +kernel
set_option maxHeartbeats 4000000 in
set_option maxRecDepth 100000 in
theorem c_X8_isApproved (l : Launch) (E : State) (G : kG) (S T : kSt) (o : Int64) (ad : kAd) (xm xa xn : Int32) (hT : okN T) : Met l yX8_isApproved (.code yX8_isApproved cX8_isApproved 4 (some .boolean) :: wsL_law) ({ frames := 6, cells := 0, slots := 0, locals := 130 } : Room) (va_Pc [.ref (ad 16 0), .int xm, .int xa, .int xn] (kPre E G ad (cto G S T o ad))) (kQi E G (fun r ad1 ct1 => (cAppr T xm xa = 0 → r = bI (rAppr T (kdT T) xm xa)) ∧ ad = ad1 ∧ ct1 = cto G S (if cAppr T xm xa = 0 then (sI T 24 0 0) else sI T 24 0 (cAppr T xm xa)) o ad)) 0 0 (kB E.heap.size) := by
  refine Met.ofW (cc := cX8_isApproved) (maxL := 4) (ret := (some .boolean)) (by decide) rfl ?_
  intro p e s m args below meth c s₁ B hml hv
  obtain ⟨rfl, hM, hK, hW0⟩ := hv
  have hlocks := B.notSynchronized
  have hr := B.returns
  have Z : kZ p m c cX8_isApproved 4 s _ wsL_law RX8 E G := ⟨⟨B.exec, B.bytes, hml, findClass_of_methodNamed B.named, fun w h => atoms_spec (ws := .code yX8_isApproved cX8_isApproved 4 (some .boolean) :: wsL_law) B.pre w (List.mem_cons_of_mem _ h)⟩, hM, hK⟩
  have hx := Z.1.1
  have hb := Z.1.2.1
  have X := kX.of hW0
  have hl := lv_entry ([.ref (ad 16 0), .int xm, .int xa, .int xn]) (n := 4) (Nat.le_of_ble_eq_true rfl)
  rw [lg_entry_eq]
  generalize (lg_sl ([.ref (ad 16 0), .int xm, .int xa, .int xn]) ++ List.replicate (4 - (lg_sl ([.ref (ad 16 0), .int xm, .int xa, .int xn])).length) Slot.unset).toArray = ls at hl ⊢
  have hl : lv_has ls 4 [(0, .ref (ad 16 0)), (1, .int xm), (2, .int xa), (3, .int xn)] := hl
  have hT0 := hT
  obtain ⟨hT1, hT2, hT3, hT4, hT5, hT6, hT7⟩ := hT0
  refine lv_aload_n hx hb dX8_isApproved_0 rfl (lv_at hl 0 rfl) ?_
  refine lv_aload_n hx hb dX8_isApproved_1 rfl (lv_at hl 0 rfl) ?_
  refine lv_iload_n hx hb dX8_isApproved_2 rfl (lv_at hl 1 rfl) ?_
  refine k_Ri X (k_runV (As := [.int xm]) (rest := [.ref (ad 16 0)]) Z X (c_X8_isMessage l E G S T o ad xm (by omega)) (k_cwV 1 Z.1.2.2.2.2 (inU_16 _ (List.mem_of_getElem? (i := 13) rfl)) (inU_16 _ (List.mem_of_getElem? (i := 14) rfl)) (inU_16 _ (List.mem_of_getElem? (i := 15) rfl)) (inU_1 _ (List.mem_of_getElem? (i := 5) rfl)) (inU_16 _ (List.mem_of_getElem? (i := 16) rfl)) rfl rfl (by decide +kernel) ⟨Nat.le_of_ble_eq_true rfl, Nat.le_of_ble_eq_true rfl⟩) (k_recv Z X ct_16 rfl) rfl hl.1 rfl (Nat.le_of_ble_eq_true rfl) dX8_isApproved_3 ⟨Nat.le_of_ble_eq_true rfl, Nat.le_of_ble_eq_true rfl⟩) (fun r_3 ad1 ct1 H locs hp X => ?_)
  obtain ⟨rfl, rfl, rfl⟩ := hp
  refine lv_if_ne (tgt := 13) hx hb dX8_isApproved_6 (by decide) (fun c_6 => ?_) (fun c_6 => ?_)
  · have c_6 : inB xm (T.2 0 1) = true := bI_1 c_6
    obtain ⟨jm, hjm, hxm⟩ := inB_of c_6 (by omega)
    subst hxm
    have hcm : cl (nI jm) = jm := nI_clamp (by omega)
    refine lv_iload_n hx hb dX8_isApproved_13 rfl (lv_at hl 2 rfl) ?_
    refine lv_iconst (v := 1) hx hb dX8_isApproved_14 (by decide) ?_
    refine lv_ldc (v := 1000000) hx hb Z.1.2.2.2.1 (Z.1.2.2.2.2 _ (inU_14 _ (List.mem_of_getElem? (i := 13) rfl))) dX8_isApproved_15 ?_
    refine k_Ri X (k_runS (As := [.int xa, .int 1, .int 1000000]) (rest := [.ref (ad 16 0)]) Z X (c_X8_isIn l E G S T o ad xa 1 1000000) (k_cwS 3 Z.1.2.2.2.2 (inU_8 _ (List.mem_of_getElem? (i := 23) rfl)) (inU_9 _ (List.mem_of_getElem? (i := 0) rfl)) (inU_1 _ (List.mem_of_getElem? (i := 5) rfl)) (inU_9 _ (List.mem_of_getElem? (i := 1) rfl)) rfl rfl (by decide +kernel) ⟨Nat.le_of_ble_eq_true rfl, Nat.le_of_ble_eq_true rfl⟩) rfl hl.1 rfl (Nat.le_of_ble_eq_true rfl) dX8_isApproved_17 ⟨Nat.le_of_ble_eq_true rfl, Nat.le_of_ble_eq_true rfl⟩) (fun r_17 ad1 ct1 H locs hp X => ?_)
    obtain ⟨rfl, rfl, rfl⟩ := hp
    refine lv_if_eq (tgt := 27) hx hb dX8_isApproved_20 (by decide) (fun c_20 => ?_) (fun c_20 => ?_)
    · have c_20 : (inR xa 1 1000000) = false := bI_0 c_20
      refine lv_iconst (v := 2) hx hb dX8_isApproved_27 (by decide) ?_
      refine k_Ri X (k_runV (As := [.int 2]) (rest := []) Z X (c_X8_fails l E G S T o ad 2) (k_cwV 1 Z.1.2.2.2.2 (inU_9 _ (List.mem_of_getElem? (i := 2) rfl)) (inU_9 _ (List.mem_of_getElem? (i := 3) rfl)) (inU_9 _ (List.mem_of_getElem? (i := 4) rfl)) (inU_1 _ (List.mem_of_getElem? (i := 5) rfl)) (inU_9 _ (List.mem_of_getElem? (i := 5) rfl)) rfl rfl (by decide +kernel) ⟨Nat.le_of_ble_eq_true rfl, Nat.le_of_ble_eq_true rfl⟩) (k_recv Z X ct_16 rfl) rfl hl.1 rfl (Nat.le_of_ble_eq_true rfl) dX8_isApproved_28 ⟨Nat.le_of_ble_eq_true rfl, Nat.le_of_ble_eq_true rfl⟩) (fun r_28 ad1 ct1 H locs hp X => ?_)
      obtain ⟨rfl, rfl, rfl⟩ := hp
      refine lv_topi (fun x_28 e_28 => ?_)
      obtain rfl : x_28 = 1 := e_28.trans (by decide)
      refine lv_if_ne (tgt := 47) hx hb dX8_isApproved_31 (by decide) (fun c_31 => ?_) (fun c_31 => ?_)
      · refine lv_iconst (v := 0) hx hb dX8_isApproved_47 (by decide) ?_
        have hk : cAppr T (nI jm) xa = 2 := by simp [cAppr, hcm, c_6, c_20, c_31]
        exact k_iret Z X hr hlocks rfl (Nat.le_of_ble_eq_true rfl) (Nat.le_of_ble_eq_true rfl) dX8_isApproved_48 ⟨fun h => absurd (hk.symm.trans h) (by decide), rfl, by rw [hk, if_neg (by decide)]⟩
      · exact absurd c_31 (by decide)
    · have c_20 : (inR xa 1 1000000) = true := bI_1 c_20
      refine lv_iconst (v := 0) hx hb dX8_isApproved_23 (by decide) ?_
      refine lv_goto (tgt := 28) hx hb dX8_isApproved_24 (by decide) ?_
      refine k_Ri X (k_runV (As := [.int 0]) (rest := []) Z X (c_X8_fails l E G S T o ad 0) (k_cwV 1 Z.1.2.2.2.2 (inU_9 _ (List.mem_of_getElem? (i := 2) rfl)) (inU_9 _ (List.mem_of_getElem? (i := 3) rfl)) (inU_9 _ (List.mem_of_getElem? (i := 4) rfl)) (inU_1 _ (List.mem_of_getElem? (i := 5) rfl)) (inU_9 _ (List.mem_of_getElem? (i := 5) rfl)) rfl rfl (by decide +kernel) ⟨Nat.le_of_ble_eq_true rfl, Nat.le_of_ble_eq_true rfl⟩) (k_recv Z X ct_16 rfl) rfl hl.1 rfl (Nat.le_of_ble_eq_true rfl) dX8_isApproved_28 ⟨Nat.le_of_ble_eq_true rfl, Nat.le_of_ble_eq_true rfl⟩) (fun r_28 ad1 ct1 H locs hp X => ?_)
      obtain ⟨rfl, rfl, rfl⟩ := hp
      refine lv_topi (fun x_28 e_28 => ?_)
      obtain rfl : x_28 = 0 := e_28.trans (by decide)
      refine lv_if_ne (tgt := 47) hx hb dX8_isApproved_31 (by decide) (fun c_31 => ?_) (fun c_31 => ?_)
      · exact absurd c_31 (by decide)
      · have h5m := hT5 _ hjm
        refine lv_aload_n hx hb dX8_isApproved_34 rfl (lv_at hl 0 rfl) ?_
        refine lv_iload_n hx hb dX8_isApproved_35 rfl (lv_at hl 1 rfl) ?_
        refine lv_iload_n hx hb dX8_isApproved_36 rfl (lv_at hl 2 rfl) ?_
        refine k_Ri X (k_runV (As := [.int (nI jm), .int xa]) (rest := []) Z X (c_X8_approves l E G S (sI T 24 0 0) o ad jm xa (by omega) hT1 (by have := h5m.1; show T.2 1 jm < 12; omega)) (k_cwV 2 Z.1.2.2.2.2 (inU_12 _ (List.mem_of_getElem? (i := 18) rfl)) (inU_12 _ (List.mem_of_getElem? (i := 19) rfl)) (inU_12 _ (List.mem_of_getElem? (i := 20) rfl)) (inU_1 _ (List.mem_of_getElem? (i := 5) rfl)) (inU_12 _ (List.mem_of_getElem? (i := 21) rfl)) rfl rfl (by decide +kernel) ⟨Nat.le_of_ble_eq_true rfl, Nat.le_of_ble_eq_true rfl⟩) (k_recv Z X ct_16 rfl) rfl hl.1 rfl (Nat.le_of_ble_eq_true rfl) dX8_isApproved_37 ⟨Nat.le_of_ble_eq_true rfl, Nat.le_of_ble_eq_true rfl⟩) (fun r_37 ad1 ct1 H locs hp X => ?_)
        obtain ⟨rfl, rfl, rfl⟩ := hp
        refine lv_topi (fun x_37 e_37 => ?_)
        obtain rfl : x_37 = bI (appr T (kdT T jm) (T.2 1 jm) (T.2 0 0) xa) := e_37.trans (congrArg bI (appr_c (S := T) (S' := sI T 24 0 0) rfl (fun _ => rfl) (fun _ => rfl) (fun _ _ => rfl)))
        refine lv_if_eq (tgt := 47) hx hb dX8_isApproved_40 (by decide) (fun c_40 => ?_) (fun c_40 => ?_)
        · have c_40 : (appr T (kdT T jm) (T.2 1 jm) (T.2 0 0) xa) = false := bI_0 c_40
          refine lv_iconst (v := 0) hx hb dX8_isApproved_47 (by decide) ?_
          have hk : cAppr T (nI jm) xa = 0 := by simp [cAppr, hcm, c_6, c_20, c_31, c_40]
          exact k_iret Z X hr hlocks rfl (Nat.le_of_ble_eq_true rfl) (Nat.le_of_ble_eq_true rfl) dX8_isApproved_48 ⟨fun _ => by rw [rAppr, hcm, show appr T (kdT T jm) (T.2 1 jm) (T.2 0 0) xa = false from c_40]; rfl, rfl, (congrArg (fun z => cto G S z o ad) (show (sI T 24 0 0) = (sI T 24 0 0) from rfl)).trans (by rw [if_pos hk])⟩
        · have c_40 : (appr T (kdT T jm) (T.2 1 jm) (T.2 0 0) xa) = true := bI_1 c_40
          refine lv_iconst (v := 1) hx hb dX8_isApproved_43 (by decide) ?_
          refine lv_goto (tgt := 48) hx hb dX8_isApproved_44 (by decide) ?_
          have hk : cAppr T (nI jm) xa = 0 := by simp [cAppr, hcm, c_6, c_20, c_31, c_40]
          exact k_iret Z X hr hlocks rfl (Nat.le_of_ble_eq_true rfl) (Nat.le_of_ble_eq_true rfl) dX8_isApproved_48 ⟨fun _ => by rw [rAppr, hcm, show appr T (kdT T jm) (T.2 1 jm) (T.2 0 0) xa = true from c_40]; rfl, rfl, (congrArg (fun z => cto G S z o ad) (show (sI T 24 0 0) = (sI T 24 0 0) from rfl)).trans (by rw [if_pos hk])⟩
  · have c_6 : inB xm (T.2 0 1) = false := bI_0 c_6
    refine lv_iconst (v := 1) hx hb dX8_isApproved_9 (by decide) ?_
    refine lv_goto (tgt := 28) hx hb dX8_isApproved_10 (by decide) ?_
    refine k_Ri X (k_runV (As := [.int 1]) (rest := []) Z X (c_X8_fails l E G S T o ad 1) (k_cwV 1 Z.1.2.2.2.2 (inU_9 _ (List.mem_of_getElem? (i := 2) rfl)) (inU_9 _ (List.mem_of_getElem? (i := 3) rfl)) (inU_9 _ (List.mem_of_getElem? (i := 4) rfl)) (inU_1 _ (List.mem_of_getElem? (i := 5) rfl)) (inU_9 _ (List.mem_of_getElem? (i := 5) rfl)) rfl rfl (by decide +kernel) ⟨Nat.le_of_ble_eq_true rfl, Nat.le_of_ble_eq_true rfl⟩) (k_recv Z X ct_16 rfl) rfl hl.1 rfl (Nat.le_of_ble_eq_true rfl) dX8_isApproved_28 ⟨Nat.le_of_ble_eq_true rfl, Nat.le_of_ble_eq_true rfl⟩) (fun r_28 ad1 ct1 H locs hp X => ?_)
    obtain ⟨rfl, rfl, rfl⟩ := hp
    refine lv_topi (fun x_28 e_28 => ?_)
    obtain rfl : x_28 = 1 := e_28.trans (by decide)
    refine lv_if_ne (tgt := 47) hx hb dX8_isApproved_31 (by decide) (fun c_31 => ?_) (fun c_31 => ?_)
    · refine lv_iconst (v := 0) hx hb dX8_isApproved_47 (by decide) ?_
      have hk : cAppr T xm xa = 1 := by simp [cAppr, c_6, c_31]
      exact k_iret Z X hr hlocks rfl (Nat.le_of_ble_eq_true rfl) (Nat.le_of_ble_eq_true rfl) dX8_isApproved_48 ⟨fun h => absurd (hk.symm.trans h) (by decide), rfl, by rw [hk, if_neg (by decide)]⟩
    · exact absurd c_31 (by decide)
theorem dX8_spendOf_0 : decode cX8_spendOf 0 = .ok (.aload_n 0, 1) := by decide +kernel
theorem dX8_spendOf_1 : decode cX8_spendOf 1 = .ok (.iload_n 1, 1) := by decide +kernel
theorem dX8_spendOf_2 : decode cX8_spendOf 2 = .ok (.iconst 0, 1) := by decide +kernel
theorem dX8_spendOf_3 : decode cX8_spendOf 3 = .ok (.aload_n 0, 1) := by decide +kernel
theorem dX8_spendOf_4 : decode cX8_spendOf 4 = .ok (.getfield 102, 3) := by decide +kernel
theorem dX8_spendOf_7 : decode cX8_spendOf 7 = .ok (.iconst 1, 1) := by decide +kernel
theorem dX8_spendOf_8 : decode cX8_spendOf 8 = .ok (.isub, 1) := by decide +kernel
theorem dX8_spendOf_9 : decode cX8_spendOf 9 = .ok (.invokestatic 84, 3) := by decide +kernel
theorem dX8_spendOf_12 : decode cX8_spendOf 12 = .ok (.ifCond .ne 7, 3) := by decide +kernel
theorem dX8_spendOf_15 : decode cX8_spendOf 15 = .ok (.iconst 1, 1) := by decide +kernel
theorem dX8_spendOf_16 : decode cX8_spendOf 16 = .ok (.goto 17, 3) := by decide +kernel
theorem dX8_spendOf_19 : decode cX8_spendOf 19 = .ok (.iload_n 2, 1) := by decide +kernel
theorem dX8_spendOf_20 : decode cX8_spendOf 20 = .ok (.iconst 0, 1) := by decide +kernel
theorem dX8_spendOf_21 : decode cX8_spendOf 21 = .ok (.iconst 3, 1) := by decide +kernel
theorem dX8_spendOf_22 : decode cX8_spendOf 22 = .ok (.invokestatic 84, 3) := by decide +kernel
theorem dX8_spendOf_25 : decode cX8_spendOf 25 = .ok (.ifCond .eq 7, 3) := by decide +kernel
theorem dX8_spendOf_28 : decode cX8_spendOf 28 = .ok (.iconst 0, 1) := by decide +kernel
theorem dX8_spendOf_29 : decode cX8_spendOf 29 = .ok (.goto 4, 3) := by decide +kernel
theorem dX8_spendOf_32 : decode cX8_spendOf 32 = .ok (.iconst 2, 1) := by decide +kernel
theorem dX8_spendOf_33 : decode cX8_spendOf 33 = .ok (.invokevirtual 111, 3) := by decide +kernel
theorem dX8_spendOf_36 : decode cX8_spendOf 36 = .ok (.ifCond .eq 5, 3) := by decide +kernel
theorem dX8_spendOf_39 : decode cX8_spendOf 39 = .ok (.iconst 0, 1) := by decide +kernel
theorem dX8_spendOf_40 : decode cX8_spendOf 40 = .ok (.ireturn, 1) := by decide +kernel
theorem dX8_spendOf_41 : decode cX8_spendOf 41 = .ok (.iload_n 2, 1) := by decide +kernel
theorem dX8_spendOf_42 : decode cX8_spendOf 42 = .ok (.ifCond .ne 20, 3) := by decide +kernel
theorem dX8_spendOf_45 : decode cX8_spendOf 45 = .ok (.aload_n 0, 1) := by decide +kernel
theorem dX8_spendOf_46 : decode cX8_spendOf 46 = .ok (.getfield 56, 3) := by decide +kernel
theorem dX8_spendOf_49 : decode cX8_spendOf 49 = .ok (.iload_n 1, 1) := by decide +kernel
theorem dX8_spendOf_50 : decode cX8_spendOf 50 = .ok (.baload, 1) := by decide +kernel
theorem dX8_spendOf_51 : decode cX8_spendOf 51 = .ok (.ifCond .eq 7, 3) := by decide +kernel
theorem dX8_spendOf_54 : decode cX8_spendOf 54 = .ok (.iconst 1, 1) := by decide +kernel
theorem dX8_spendOf_55 : decode cX8_spendOf 55 = .ok (.goto 41, 3) := by decide +kernel
theorem dX8_spendOf_58 : decode cX8_spendOf 58 = .ok (.iconst 0, 1) := by decide +kernel
theorem dX8_spendOf_59 : decode cX8_spendOf 59 = .ok (.goto 37, 3) := by decide +kernel
theorem dX8_spendOf_62 : decode cX8_spendOf 62 = .ok (.iload_n 2, 1) := by decide +kernel
theorem dX8_spendOf_63 : decode cX8_spendOf 63 = .ok (.iconst 1, 1) := by decide +kernel
theorem dX8_spendOf_64 : decode cX8_spendOf 64 = .ok (.if_icmp .ne 12, 3) := by decide +kernel
theorem dX8_spendOf_67 : decode cX8_spendOf 67 = .ok (.aload_n 0, 1) := by decide +kernel
theorem dX8_spendOf_68 : decode cX8_spendOf 68 = .ok (.getfield 47, 3) := by decide +kernel
theorem dX8_spendOf_71 : decode cX8_spendOf 71 = .ok (.iload_n 1, 1) := by decide +kernel
theorem dX8_spendOf_72 : decode cX8_spendOf 72 = .ok (.iaload, 1) := by decide +kernel
theorem dX8_spendOf_73 : decode cX8_spendOf 73 = .ok (.goto 23, 3) := by decide +kernel
theorem dX8_spendOf_76 : decode cX8_spendOf 76 = .ok (.iload_n 2, 1) := by decide +kernel
theorem dX8_spendOf_77 : decode cX8_spendOf 77 = .ok (.iconst 2, 1) := by decide +kernel
theorem dX8_spendOf_78 : decode cX8_spendOf 78 = .ok (.if_icmp .ne 12, 3) := by decide +kernel
theorem dX8_spendOf_81 : decode cX8_spendOf 81 = .ok (.aload_n 0, 1) := by decide +kernel
theorem dX8_spendOf_82 : decode cX8_spendOf 82 = .ok (.getfield 50, 3) := by decide +kernel
theorem dX8_spendOf_85 : decode cX8_spendOf 85 = .ok (.iload_n 1, 1) := by decide +kernel
theorem dX8_spendOf_86 : decode cX8_spendOf 86 = .ok (.iaload, 1) := by decide +kernel
theorem dX8_spendOf_87 : decode cX8_spendOf 87 = .ok (.goto 9, 3) := by decide +kernel
theorem dX8_spendOf_90 : decode cX8_spendOf 90 = .ok (.aload_n 0, 1) := by decide +kernel
theorem dX8_spendOf_91 : decode cX8_spendOf 91 = .ok (.getfield 53, 3) := by decide +kernel
theorem dX8_spendOf_94 : decode cX8_spendOf 94 = .ok (.iload_n 1, 1) := by decide +kernel
theorem dX8_spendOf_95 : decode cX8_spendOf 95 = .ok (.iaload, 1) := by decide +kernel
theorem dX8_spendOf_96 : decode cX8_spendOf 96 = .ok (.ireturn, 1) := by decide +kernel
set_option maxHeartbeats 4000000 in
set_option maxRecDepth 100000 in
theorem c_X8_spendOf (l : Launch) (E : State) (G : kG) (S T : kSt) (o : Int64) (ad : kAd) (xs xw : Int32) (hT : okN T) (hB : ∀ j, j < T.2 0 2 → T.1 12 j = 0 ∨ T.1 12 j = 1) : Met l yX8_spendOf (.code yX8_spendOf cX8_spendOf 3 (some .int) :: wsL_law) ({ frames := 4, cells := 0, slots := 0, locals := 90 } : Room) (va_Pc [.ref (ad 16 0), .int xs, .int xw] (kPre E G ad (cto G S T o ad))) (kQi E G (fun r ad1 ct1 => (cSpOf T xs xw = 0 → r = rSpOf T xs xw) ∧ ad = ad1 ∧ ct1 = cto G S (if cSpOf T xs xw = 0 then (sI T 24 0 0) else sI T 24 0 (cSpOf T xs xw)) o ad)) 0 0 (kB E.heap.size) := by
  refine Met.ofW (cc := cX8_spendOf) (maxL := 3) (ret := (some .int)) (by decide) rfl ?_
  intro p e s m args below meth c s₁ B hml hv
  obtain ⟨rfl, hM, hK, hW0⟩ := hv
  have hlocks := B.notSynchronized
  have hr := B.returns
  have Z : kZ p m c cX8_spendOf 3 s _ wsL_law RX8 E G := ⟨⟨B.exec, B.bytes, hml, findClass_of_methodNamed B.named, fun w h => atoms_spec (ws := .code yX8_spendOf cX8_spendOf 3 (some .int) :: wsL_law) B.pre w (List.mem_cons_of_mem _ h)⟩, hM, hK⟩
  have hx := Z.1.1
  have hb := Z.1.2.1
  have X := kX.of hW0
  have hl := lv_entry ([.ref (ad 16 0), .int xs, .int xw]) (n := 3) (Nat.le_of_ble_eq_true rfl)
  rw [lg_entry_eq]
  generalize (lg_sl ([.ref (ad 16 0), .int xs, .int xw]) ++ List.replicate (3 - (lg_sl ([.ref (ad 16 0), .int xs, .int xw])).length) Slot.unset).toArray = ls at hl ⊢
  have hl : lv_has ls 3 [(0, .ref (ad 16 0)), (1, .int xs), (2, .int xw)] := hl
  have hT0 := hT
  obtain ⟨hT1, hT2, hT3, hT4, hT5, hT6, hT7⟩ := hT0
  refine lv_aload_n hx hb dX8_spendOf_0 rfl (lv_at hl 0 rfl) ?_
  refine lv_iload_n hx hb dX8_spendOf_1 rfl (lv_at hl 1 rfl) ?_
  refine lv_iconst (v := 0) hx hb dX8_spendOf_2 (by decide) ?_
  refine lv_aload_n hx hb dX8_spendOf_3 rfl (lv_at hl 0 rfl) ?_
  refine k_get (index := 102) (j := 15) (ad := ad) (k := 16) (i := 0) Z X ct_16 inlX8 rfl (by decide) (inU_12 _ (List.mem_of_getElem? (i := 17) rfl)) (fun _ h => h) (v := .int (nI (T.2 0 2))) rfl dX8_spendOf_4 ?_
  refine lv_iconst (v := 1) hx hb dX8_spendOf_7 (by decide) ?_
  refine lv_isub hx hb dX8_spendOf_8 ?_
  refine k_Ri X (k_runS (As := [.int xs, .int 0, .int ((nI (T.2 0 2)) - 1)]) (rest := [.ref (ad 16 0)]) Z X (c_X8_isIn l E G S T o ad xs 0 ((nI (T.2 0 2)) - 1)) (k_cwS 3 Z.1.2.2.2.2 (inU_8 _ (List.mem_of_getElem? (i := 23) rfl)) (inU_9 _ (List.mem_of_getElem? (i := 0) rfl)) (inU_1 _ (List.mem_of_getElem? (i := 5) rfl)) (inU_9 _ (List.mem_of_getElem? (i := 1) rfl)) rfl rfl (by decide +kernel) ⟨Nat.le_of_ble_eq_true rfl, Nat.le_of_ble_eq_true rfl⟩) rfl hl.1 rfl (Nat.le_of_ble_eq_true rfl) dX8_spendOf_9 ⟨Nat.le_of_ble_eq_true rfl, Nat.le_of_ble_eq_true rfl⟩) (fun r_9 ad1 ct1 H locs hp X => ?_)
  obtain ⟨rfl, rfl, rfl⟩ := hp
  refine lv_if_ne (tgt := 19) hx hb dX8_spendOf_12 (by decide) (fun c_12 => ?_) (fun c_12 => ?_)
  · have c_12 : inB xs (T.2 0 2) = true := (inB_rng (by omega)).symm.trans (bI_1 c_12)
    obtain ⟨js, hjs, hxs⟩ := inB_of c_12 (by omega)
    subst hxs
    have hcs : cl (nI js) = js := nI_clamp (by omega)
    refine lv_iload_n hx hb dX8_spendOf_19 rfl (lv_at hl 2 rfl) ?_
    refine lv_iconst (v := 0) hx hb dX8_spendOf_20 (by decide) ?_
    refine lv_iconst (v := 3) hx hb dX8_spendOf_21 (by decide) ?_
    refine k_Ri X (k_runS (As := [.int xw, .int 0, .int 3]) (rest := [.ref (ad 16 0)]) Z X (c_X8_isIn l E G S T o ad xw 0 3) (k_cwS 3 Z.1.2.2.2.2 (inU_8 _ (List.mem_of_getElem? (i := 23) rfl)) (inU_9 _ (List.mem_of_getElem? (i := 0) rfl)) (inU_1 _ (List.mem_of_getElem? (i := 5) rfl)) (inU_9 _ (List.mem_of_getElem? (i := 1) rfl)) rfl rfl (by decide +kernel) ⟨Nat.le_of_ble_eq_true rfl, Nat.le_of_ble_eq_true rfl⟩) rfl hl.1 rfl (Nat.le_of_ble_eq_true rfl) dX8_spendOf_22 ⟨Nat.le_of_ble_eq_true rfl, Nat.le_of_ble_eq_true rfl⟩) (fun r_22 ad1 ct1 H locs hp X => ?_)
    obtain ⟨rfl, rfl, rfl⟩ := hp
    refine lv_if_eq (tgt := 32) hx hb dX8_spendOf_25 (by decide) (fun c_25 => ?_) (fun c_25 => ?_)
    · have c_25 : (inR xw 0 3) = false := bI_0 c_25
      refine lv_iconst (v := 2) hx hb dX8_spendOf_32 (by decide) ?_
      refine k_Ri X (k_runV (As := [.int 2]) (rest := []) Z X (c_X8_fails l E G S T o ad 2) (k_cwV 1 Z.1.2.2.2.2 (inU_9 _ (List.mem_of_getElem? (i := 2) rfl)) (inU_9 _ (List.mem_of_getElem? (i := 3) rfl)) (inU_9 _ (List.mem_of_getElem? (i := 4) rfl)) (inU_1 _ (List.mem_of_getElem? (i := 5) rfl)) (inU_9 _ (List.mem_of_getElem? (i := 5) rfl)) rfl rfl (by decide +kernel) ⟨Nat.le_of_ble_eq_true rfl, Nat.le_of_ble_eq_true rfl⟩) (k_recv Z X ct_16 rfl) rfl hl.1 rfl (Nat.le_of_ble_eq_true rfl) dX8_spendOf_33 ⟨Nat.le_of_ble_eq_true rfl, Nat.le_of_ble_eq_true rfl⟩) (fun r_33 ad1 ct1 H locs hp X => ?_)
      obtain ⟨rfl, rfl, rfl⟩ := hp
      refine lv_topi (fun x_33 e_33 => ?_)
      obtain rfl : x_33 = 1 := e_33.trans (by decide)
      refine lv_if_eq (tgt := 41) hx hb dX8_spendOf_36 (by decide) (fun c_36 => ?_) (fun c_36 => ?_)
      · exact absurd c_36 (by decide)
      · refine lv_iconst (v := 0) hx hb dX8_spendOf_39 (by decide) ?_
        have hk : cSpOf T (nI js) xw = 2 := by rw [cSpOf, if_neg (by rw [c_12]; decide), if_pos c_25]
        exact k_iret Z X hr hlocks rfl (Nat.le_of_ble_eq_true rfl) (Nat.le_of_ble_eq_true rfl) dX8_spendOf_40 ⟨fun h => absurd (hk.symm.trans h) (by decide), rfl, by rw [hk, if_neg (by decide)]⟩
    · have c_25 : (inR xw 0 3) = true := bI_1 c_25
      refine lv_iconst (v := 0) hx hb dX8_spendOf_28 (by decide) ?_
      refine lv_goto (tgt := 33) hx hb dX8_spendOf_29 (by decide) ?_
      refine k_Ri X (k_runV (As := [.int 0]) (rest := []) Z X (c_X8_fails l E G S T o ad 0) (k_cwV 1 Z.1.2.2.2.2 (inU_9 _ (List.mem_of_getElem? (i := 2) rfl)) (inU_9 _ (List.mem_of_getElem? (i := 3) rfl)) (inU_9 _ (List.mem_of_getElem? (i := 4) rfl)) (inU_1 _ (List.mem_of_getElem? (i := 5) rfl)) (inU_9 _ (List.mem_of_getElem? (i := 5) rfl)) rfl rfl (by decide +kernel) ⟨Nat.le_of_ble_eq_true rfl, Nat.le_of_ble_eq_true rfl⟩) (k_recv Z X ct_16 rfl) rfl hl.1 rfl (Nat.le_of_ble_eq_true rfl) dX8_spendOf_33 ⟨Nat.le_of_ble_eq_true rfl, Nat.le_of_ble_eq_true rfl⟩) (fun r_33 ad1 ct1 H locs hp X => ?_)
      obtain ⟨rfl, rfl, rfl⟩ := hp
      refine lv_topi (fun x_33 e_33 => ?_)
      obtain rfl : x_33 = 0 := e_33.trans (by decide)
      refine lv_if_eq (tgt := 41) hx hb dX8_spendOf_36 (by decide) (fun c_36 => ?_) (fun c_36 => ?_)
      · refine lv_iload_n hx hb dX8_spendOf_41 rfl (lv_at hl 2 rfl) ?_
        refine lv_if_ne (tgt := 62) hx hb dX8_spendOf_42 (by decide) (fun c_42 => ?_) (fun c_42 => ?_)
        · refine lv_iload_n hx hb dX8_spendOf_62 rfl (lv_at hl 2 rfl) ?_
          refine lv_iconst (v := 1) hx hb dX8_spendOf_63 (by decide) ?_
          refine lv_icmp_ne (tgt := 76) hx hb dX8_spendOf_64 (by decide) (fun c_64 => ?_) (fun c_64 => ?_)
          · refine lv_iload_n hx hb dX8_spendOf_76 rfl (lv_at hl 2 rfl) ?_
            refine lv_iconst (v := 2) hx hb dX8_spendOf_77 (by decide) ?_
            refine lv_icmp_ne (tgt := 90) hx hb dX8_spendOf_78 (by decide) (fun c_78 => ?_) (fun c_78 => ?_)
            · refine lv_aload_n hx hb dX8_spendOf_90 rfl (lv_at hl 0 rfl) ?_
              refine k_get (index := 53) (j := 18) (ad := ad) (k := 16) (i := 0) Z X ct_16 inlX8 rfl (by decide) (inU_6 _ (List.mem_of_getElem? (i := 21) rfl)) (fun _ h => h) (v := .ref (ad 17 14)) rfl dX8_spendOf_91 ?_
              refine lv_iload_n hx hb dX8_spendOf_94 rfl (lv_at hl 1 rfl) ?_
              refine k_ild (ad := ad) (k := 17) (i := 14) Z X ct_17_14 (vp_in_nI (by first | assumption | omega) (by decide)) dX8_spendOf_95 ?_
              refine lv_topi (fun x_95 e_95 => ?_)
              obtain rfl : x_95 = T.1 11 js := e_95.trans (by first | (simp only [nI_clamp (show js < 2 ^ 31 by omega)]; done) | (simp only [nI_clamp (show js < 2 ^ 31 by omega)]; rfl) | (simp only [nI_clamp (show js < 2 ^ 31 by omega)]; simp [sI, sN]; done))
              have hk : cSpOf T (nI js) xw = 0 := by rw [cSpOf, if_neg (by rw [c_12]; decide), if_neg (by rw [c_25]; decide)]
              exact k_iret Z X hr hlocks rfl (Nat.le_of_ble_eq_true rfl) (Nat.le_of_ble_eq_true rfl) dX8_spendOf_96 ⟨fun _ => by simp [rSpOf, hcs, c_42, c_64, c_78], rfl, (congrArg (fun z => cto G S z o ad) (show (sI T 24 0 0) = (sI T 24 0 0) from rfl)).trans (by rw [if_pos hk])⟩
            · refine lv_aload_n hx hb dX8_spendOf_81 rfl (lv_at hl 0 rfl) ?_
              refine k_get (index := 50) (j := 17) (ad := ad) (k := 16) (i := 0) Z X ct_16 inlX8 rfl (by decide) (inU_6 _ (List.mem_of_getElem? (i := 20) rfl)) (fun _ h => h) (v := .ref (ad 17 13)) rfl dX8_spendOf_82 ?_
              refine lv_iload_n hx hb dX8_spendOf_85 rfl (lv_at hl 1 rfl) ?_
              refine k_ild (ad := ad) (k := 17) (i := 13) Z X ct_17_13 (vp_in_nI (by first | assumption | omega) (by decide)) dX8_spendOf_86 ?_
              refine lv_topi (fun x_86 e_86 => ?_)
              obtain rfl : x_86 = T.1 10 js := e_86.trans (by first | (simp only [nI_clamp (show js < 2 ^ 31 by omega)]; done) | (simp only [nI_clamp (show js < 2 ^ 31 by omega)]; rfl) | (simp only [nI_clamp (show js < 2 ^ 31 by omega)]; simp [sI, sN]; done))
              refine lv_goto (tgt := 96) hx hb dX8_spendOf_87 (by decide) ?_
              have hk : cSpOf T (nI js) xw = 0 := by rw [cSpOf, if_neg (by rw [c_12]; decide), if_neg (by rw [c_25]; decide)]
              exact k_iret Z X hr hlocks rfl (Nat.le_of_ble_eq_true rfl) (Nat.le_of_ble_eq_true rfl) dX8_spendOf_96 ⟨fun _ => by simp [rSpOf, hcs, c_42, c_64, c_78], rfl, (congrArg (fun z => cto G S z o ad) (show (sI T 24 0 0) = (sI T 24 0 0) from rfl)).trans (by rw [if_pos hk])⟩
          · refine lv_aload_n hx hb dX8_spendOf_67 rfl (lv_at hl 0 rfl) ?_
            refine k_get (index := 47) (j := 16) (ad := ad) (k := 16) (i := 0) Z X ct_16 inlX8 rfl (by decide) (inU_6 _ (List.mem_of_getElem? (i := 19) rfl)) (fun _ h => h) (v := .ref (ad 17 12)) rfl dX8_spendOf_68 ?_
            refine lv_iload_n hx hb dX8_spendOf_71 rfl (lv_at hl 1 rfl) ?_
            refine k_ild (ad := ad) (k := 17) (i := 12) Z X ct_17_12 (vp_in_nI (by first | assumption | omega) (by decide)) dX8_spendOf_72 ?_
            refine lv_topi (fun x_72 e_72 => ?_)
            obtain rfl : x_72 = nI (T.2 3 js) := e_72.trans (by first | (simp only [nI_clamp (show js < 2 ^ 31 by omega)]; done) | (simp only [nI_clamp (show js < 2 ^ 31 by omega)]; rfl) | (simp only [nI_clamp (show js < 2 ^ 31 by omega)]; simp [sI, sN]; done))
            refine lv_goto (tgt := 96) hx hb dX8_spendOf_73 (by decide) ?_
            have hk : cSpOf T (nI js) xw = 0 := by rw [cSpOf, if_neg (by rw [c_12]; decide), if_neg (by rw [c_25]; decide)]
            exact k_iret Z X hr hlocks rfl (Nat.le_of_ble_eq_true rfl) (Nat.le_of_ble_eq_true rfl) dX8_spendOf_96 ⟨fun _ => by simp [rSpOf, hcs, c_42, c_64], rfl, (congrArg (fun z => cto G S z o ad) (show (sI T 24 0 0) = (sI T 24 0 0) from rfl)).trans (by rw [if_pos hk])⟩
        · refine lv_aload_n hx hb dX8_spendOf_45 rfl (lv_at hl 0 rfl) ?_
          refine k_get (index := 56) (j := 19) (ad := ad) (k := 16) (i := 0) Z X ct_16 inlX8 rfl (by decide) (inU_6 _ (List.mem_of_getElem? (i := 22) rfl)) (fun _ h => h) (v := .ref (ad 17 15)) rfl dX8_spendOf_46 ?_
          refine lv_iload_n hx hb dX8_spendOf_49 rfl (lv_at hl 1 rfl) ?_
          refine k_zld (ad := ad) (k := 17) (i := 15) Z X ct_17_15 (vp_in_nI (by first | assumption | omega) (by decide)) dX8_spendOf_50 ?_
          refine lv_topi (fun x_50 e_50 => ?_)
          obtain rfl : x_50 = T.1 12 js := e_50.trans (by first | (simp only [nI_clamp (show js < 2 ^ 31 by omega)]; done) | (simp only [nI_clamp (show js < 2 ^ 31 by omega)]; rfl) | (simp only [nI_clamp (show js < 2 ^ 31 by omega)]; simp [sI, sN]; done))
          refine lv_if_eq (tgt := 58) hx hb dX8_spendOf_51 (by decide) (fun c_51 => ?_) (fun c_51 => ?_)
          · refine lv_iconst (v := 0) hx hb dX8_spendOf_58 (by decide) ?_
            refine lv_goto (tgt := 96) hx hb dX8_spendOf_59 (by decide) ?_
            have hk : cSpOf T (nI js) xw = 0 := by rw [cSpOf, if_neg (by rw [c_12]; decide), if_neg (by rw [c_25]; decide)]
            exact k_iret Z X hr hlocks rfl (Nat.le_of_ble_eq_true rfl) (Nat.le_of_ble_eq_true rfl) dX8_spendOf_96 ⟨fun _ => by rw [rSpOf, if_pos c_42, hcs]; exact c_51.symm, rfl, (congrArg (fun z => cto G S z o ad) (show (sI T 24 0 0) = (sI T 24 0 0) from rfl)).trans (by rw [if_pos hk])⟩
          · refine lv_iconst (v := 1) hx hb dX8_spendOf_54 (by decide) ?_
            refine lv_goto (tgt := 96) hx hb dX8_spendOf_55 (by decide) ?_
            have hk : cSpOf T (nI js) xw = 0 := by rw [cSpOf, if_neg (by rw [c_12]; decide), if_neg (by rw [c_25]; decide)]
            exact k_iret Z X hr hlocks rfl (Nat.le_of_ble_eq_true rfl) (Nat.le_of_ble_eq_true rfl) dX8_spendOf_96 ⟨fun _ => by rw [rSpOf, if_pos c_42, hcs]; exact ((hB js hjs).resolve_left c_51).symm, rfl, (congrArg (fun z => cto G S z o ad) (show (sI T 24 0 0) = (sI T 24 0 0) from rfl)).trans (by rw [if_pos hk])⟩
      · exact absurd c_36 (by decide)
  · have c_12 : inB xs (T.2 0 2) = false := (inB_rng (by omega)).symm.trans (bI_0 c_12)
    refine lv_iconst (v := 1) hx hb dX8_spendOf_15 (by decide) ?_
    refine lv_goto (tgt := 33) hx hb dX8_spendOf_16 (by decide) ?_
    refine k_Ri X (k_runV (As := [.int 1]) (rest := []) Z X (c_X8_fails l E G S T o ad 1) (k_cwV 1 Z.1.2.2.2.2 (inU_9 _ (List.mem_of_getElem? (i := 2) rfl)) (inU_9 _ (List.mem_of_getElem? (i := 3) rfl)) (inU_9 _ (List.mem_of_getElem? (i := 4) rfl)) (inU_1 _ (List.mem_of_getElem? (i := 5) rfl)) (inU_9 _ (List.mem_of_getElem? (i := 5) rfl)) rfl rfl (by decide +kernel) ⟨Nat.le_of_ble_eq_true rfl, Nat.le_of_ble_eq_true rfl⟩) (k_recv Z X ct_16 rfl) rfl hl.1 rfl (Nat.le_of_ble_eq_true rfl) dX8_spendOf_33 ⟨Nat.le_of_ble_eq_true rfl, Nat.le_of_ble_eq_true rfl⟩) (fun r_33 ad1 ct1 H locs hp X => ?_)
    obtain ⟨rfl, rfl, rfl⟩ := hp
    refine lv_topi (fun x_33 e_33 => ?_)
    obtain rfl : x_33 = 1 := e_33.trans (by decide)
    refine lv_if_eq (tgt := 41) hx hb dX8_spendOf_36 (by decide) (fun c_36 => ?_) (fun c_36 => ?_)
    · exact absurd c_36 (by decide)
    · refine lv_iconst (v := 0) hx hb dX8_spendOf_39 (by decide) ?_
      have hk : cSpOf T xs xw = 1 := by rw [cSpOf, if_pos c_12]
      exact k_iret Z X hr hlocks rfl (Nat.le_of_ble_eq_true rfl) (Nat.le_of_ble_eq_true rfl) dX8_spendOf_40 ⟨fun h => absurd (hk.symm.trans h) (by decide), rfl, by rw [hk, if_neg (by decide)]⟩
