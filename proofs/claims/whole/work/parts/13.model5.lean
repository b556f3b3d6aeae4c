theorem sR_s {S : kSt} {f a n : Nat} {v : Int32} : sI (sR S f a n v) f (a + n) v = sR S f a (n + 1) v := by
  refine Prod.ext ?_ rfl
  funext g j
  simp only [sI, sR]
  by_cases h1 : g = f
  · by_cases h2 : j = a + n
    · simp [h1, h2]
    · by_cases h3 : a ≤ j ∧ j < a + n
      · rw [if_neg (fun z => h2 z.2), if_pos ⟨h1, h3⟩, if_pos ⟨h1, by omega⟩]
      · rw [if_neg (fun z => h2 z.2), if_neg (fun z => h3 z.2), if_neg (fun z => h3 ⟨z.2.1, by have := z.2; omega⟩)]
  · simp [h1]
theorem sR_0 {S : kSt} {f a : Nat} {v : Int32} : sR S f a 0 v = S := by
  refine Prod.ext ?_ rfl
  funext g j
  simp only [sR]
  rw [if_neg (by omega)]
theorem sI_id (S : kSt) (f i : Nat) : sI S f i (S.1 f i) = S := by
  refine Prod.ext ?_ rfl
  funext g j
  simp only [sI]
  split
  · rename_i h; rw [h.1, h.2]
  · rfl
theorem drp_r (S : kSt) (m : Nat) : ∀ n, (drp S m n).2 = S.2 ∧ (∀ f j, f ≠ 14 → (drp S m n).1 f j = S.1 f j) ∧ ∀ j, n ≤ j → (drp S m n).1 14 j = S.1 14 j
  | 0 => ⟨rfl, fun _ _ _ => rfl, fun _ _ => rfl⟩
  | n + 1 => by
    obtain ⟨h1, h2, h3⟩ := drp_r S m n
    refine ⟨?_, fun f j ha => ?_, fun j hj => ?_⟩
    · simp only [drp]
      split
      · exact h1
      · exact h1
    · simp only [drp]
      split
      · simp [sI, ha, h2 f j ha]
      · exact h2 f j ha
    · simp only [drp]
      split
      · have : j ≠ n := by omega
        simp [sI, this, h3 j (by omega)]
      · exact h3 j (by omega)
def oPostM (S : kSt) (u c p : Int32) : kSt := sN (sR (sI (sI (sN (sN S 1 (S.2 0 1) (cl u)) 2 (S.2 0 1) (cl c)) 5 (S.2 0 1) p) 6 (S.2 0 1) (S.1 0 0)) 21 (12 * S.2 0 1) 12 (-1)) 0 1 (S.2 0 1 + 1)
def oEd0 (S : kSt) (m : Int32) : kSt := drp (sI S 7 (cl m) (S.1 7 (cl m) + 1)) (cl m) (S.2 0 3)
def oEditM (S : kSt) (m : Int32) : kSt := stl (oEd0 S m) (kdT (oEd0 S m)) (S.2 0 2)
def oMk0 (S : kSt) (u m x : Int32) : kSt := sI (sI S 21 (12 * cl m + cl u) x) 22 (12 * cl m + cl u) (S.1 7 (cl m))
def oMarkM (S : kSt) (u m x : Int32) : kSt := stl (oMk0 S u m x) (kdT (oMk0 S u m x)) (S.2 0 2)
theorem dX8_post_0 : decode cX8_post 0 = .ok (.aload_n 0, 1) := by decide +kernel
theorem dX8_post_1 : decode cX8_post 1 = .ok (.iload_n 1, 1) := by decide +kernel
theorem dX8_post_2 : decode cX8_post 2 = .ok (.invokevirtual 114, 3) := by decide +kernel
theorem dX8_post_5 : decode cX8_post 5 = .ok (.ifCond .eq 27, 3) := by decide +kernel
theorem dX8_post_8 : decode cX8_post 8 = .ok (.iload_n 2, 1) := by decide +kernel
theorem dX8_post_9 : decode cX8_post 9 = .ok (.invokestatic 121, 3) := by decide +kernel
theorem dX8_post_12 : decode cX8_post 12 = .ok (.ifCond .eq 20, 3) := by decide +kernel
theorem dX8_post_15 : decode cX8_post 15 = .ok (.iload_n 3, 1) := by decide +kernel
theorem dX8_post_16 : decode cX8_post 16 = .ok (.iconst (-1), 1) := by decide +kernel
theorem dX8_post_17 : decode cX8_post 17 = .ok (.if_icmp .eq 11, 3) := by decide +kernel
theorem dX8_post_20 : decode cX8_post 20 = .ok (.aload_n 0, 1) := by decide +kernel
theorem dX8_post_21 : decode cX8_post 21 = .ok (.iload_n 3, 1) := by decide +kernel
theorem dX8_post_22 : decode cX8_post 22 = .ok (.invokevirtual 125, 3) := by decide +kernel
theorem dX8_post_25 : decode cX8_post 25 = .ok (.ifCond .eq 7, 3) := by decide +kernel
theorem dX8_post_28 : decode cX8_post 28 = .ok (.iconst 1, 1) := by decide +kernel
theorem dX8_post_29 : decode cX8_post 29 = .ok (.goto 4, 3) := by decide +kernel
theorem dX8_post_32 : decode cX8_post 32 = .ok (.iconst 0, 1) := by decide +kernel
theorem dX8_post_33 : decode cX8_post 33 = .ok (.istore 4, 2) := by decide +kernel
theorem dX8_post_35 : decode cX8_post 35 = .ok (.iload 4, 2) := by decide +kernel
theorem dX8_post_37 : decode cX8_post 37 = .ok (.ifCond .eq 48, 3) := by decide +kernel
theorem dX8_post_40 : decode cX8_post 40 = .ok (.aload_n 0, 1) := by decide +kernel
theorem dX8_post_41 : decode cX8_post 41 = .ok (.iload_n 1, 1) := by decide +kernel
theorem dX8_post_42 : decode cX8_post 42 = .ok (.invokevirtual 94, 3) := by decide +kernel
theorem dX8_post_45 : decode cX8_post 45 = .ok (.ifCond .ne 40, 3) := by decide +kernel
theorem dX8_post_48 : decode cX8_post 48 = .ok (.aload_n 0, 1) := by decide +kernel
theorem dX8_post_49 : decode cX8_post 49 = .ok (.getfield 91, 3) := by decide +kernel
theorem dX8_post_52 : decode cX8_post 52 = .ok (.bipush 80, 2) := by decide +kernel
theorem dX8_post_54 : decode cX8_post 54 = .ok (.if_icmp .ge 31, 3) := by decide +kernel
theorem dX8_post_57 : decode cX8_post 57 = .ok (.iload_n 3, 1) := by decide +kernel
theorem dX8_post_58 : decode cX8_post 58 = .ok (.iconst (-1), 1) := by decide +kernel
theorem dX8_post_59 : decode cX8_post 59 = .ok (.if_icmp .eq 22, 3) := by decide +kernel
theorem dX8_post_62 : decode cX8_post 62 = .ok (.aload_n 0, 1) := by decide +kernel
theorem dX8_post_63 : decode cX8_post 63 = .ok (.getfield 26, 3) := by decide +kernel
theorem dX8_post_66 : decode cX8_post 66 = .ok (.iload_n 3, 1) := by decide +kernel
theorem dX8_post_67 : decode cX8_post 67 = .ok (.iaload, 1) := by decide +kernel
theorem dX8_post_68 : decode cX8_post 68 = .ok (.iload_n 2, 1) := by decide +kernel
theorem dX8_post_69 : decode cX8_post 69 = .ok (.if_icmp .ne 16, 3) := by decide +kernel
theorem dX8_post_72 : decode cX8_post 72 = .ok (.aload_n 0, 1) := by decide +kernel
theorem dX8_post_73 : decode cX8_post 73 = .ok (.getfield 38, 3) := by decide +kernel
theorem dX8_post_76 : decode cX8_post 76 = .ok (.iload_n 3, 1) := by decide +kernel
theorem dX8_post_77 : decode cX8_post 77 = .ok (.baload, 1) := by decide +kernel
theorem dX8_post_78 : decode cX8_post 78 = .ok (.ifCond .ne 7, 3) := by decide +kernel
theorem dX8_post_81 : decode cX8_post 81 = .ok (.iconst 1, 1) := by decide +kernel
theorem dX8_post_82 : decode cX8_post 82 = .ok (.goto 4, 3) := by decide +kernel
theorem dX8_post_85 : decode cX8_post 85 = .ok (.iconst 0, 1) := by decide +kernel
theorem dX8_post_86 : decode cX8_post 86 = .ok (.istore 5, 2) := by decide +kernel
theorem dX8_post_88 : decode cX8_post 88 = .ok (.aload_n 0, 1) := by decide +kernel
theorem dX8_post_89 : decode cX8_post 89 = .ok (.iload 4, 2) := by decide +kernel
theorem dX8_post_91 : decode cX8_post 91 = .ok (.ifCond .ne 7, 3) := by decide +kernel
theorem dX8_post_94 : decode cX8_post 94 = .ok (.iconst 1, 1) := by decide +kernel
theorem dX8_post_95 : decode cX8_post 95 = .ok (.goto 13, 3) := by decide +kernel
theorem dX8_post_98 : decode cX8_post 98 = .ok (.iload 5, 2) := by decide +kernel
theorem dX8_post_100 : decode cX8_post 100 = .ok (.ifCond .eq 7, 3) := by decide +kernel
theorem dX8_post_103 : decode cX8_post 103 = .ok (.iconst 0, 1) := by decide +kernel
theorem dX8_post_104 : decode cX8_post 104 = .ok (.goto 4, 3) := by decide +kernel
theorem dX8_post_107 : decode cX8_post 107 = .ok (.iconst 2, 1) := by decide +kernel
theorem dX8_post_108 : decode cX8_post 108 = .ok (.invokevirtual 111, 3) := by decide +kernel
theorem dX8_post_111 : decode cX8_post 111 = .ok (.ifCond .eq 5, 3) := by decide +kernel
theorem dX8_post_114 : decode cX8_post 114 = .ok (.iconst 0, 1) := by decide +kernel
theorem dX8_post_115 : decode cX8_post 115 = .ok (.ireturn, 1) := by decide +kernel
theorem dX8_post_116 : decode cX8_post 116 = .ok (.aload_n 0, 1) := by decide +kernel
theorem dX8_post_117 : decode cX8_post 117 = .ok (.getfield 23, 3) := by decide +kernel
theorem dX8_post_120 : decode cX8_post 120 = .ok (.aload_n 0, 1) := by decide +kernel
theorem dX8_post_121 : decode cX8_post 121 = .ok (.getfield 91, 3) := by decide +kernel
theorem dX8_post_124 : decode cX8_post 124 = .ok (.iload_n 1, 1) := by decide +kernel
theorem dX8_post_125 : decode cX8_post 125 = .ok (.iastore, 1) := by decide +kernel
theorem dX8_post_126 : decode cX8_post 126 = .ok (.aload_n 0, 1) := by decide +kernel
theorem dX8_post_127 : decode cX8_post 127 = .ok (.getfield 26, 3) := by decide +kernel
theorem dX8_post_130 : decode cX8_post 130 = .ok (.aload_n 0, 1) := by decide +kernel
theorem dX8_post_131 : decode cX8_post 131 = .ok (.getfield 91, 3) := by decide +kernel
theorem dX8_post_134 : decode cX8_post 134 = .ok (.iload_n 2, 1) := by decide +kernel
theorem dX8_post_135 : decode cX8_post 135 = .ok (.iastore, 1) := by decide +kernel
theorem dX8_post_136 : decode cX8_post 136 = .ok (.aload_n 0, 1) := by decide +kernel
theorem dX8_post_137 : decode cX8_post 137 = .ok (.getfield 29, 3) := by decide +kernel
theorem dX8_post_140 : decode cX8_post 140 = .ok (.aload_n 0, 1) := by decide +kernel
theorem dX8_post_141 : decode cX8_post 141 = .ok (.getfield 91, 3) := by decide +kernel
theorem dX8_post_144 : decode cX8_post 144 = .ok (.iload_n 3, 1) := by decide +kernel
theorem dX8_post_145 : decode cX8_post 145 = .ok (.iastore, 1) := by decide +kernel
theorem dX8_post_146 : decode cX8_post 146 = .ok (.aload_n 0, 1) := by decide +kernel
theorem dX8_post_147 : decode cX8_post 147 = .ok (.getfield 35, 3) := by decide +kernel
theorem dX8_post_150 : decode cX8_post 150 = .ok (.aload_n 0, 1) := by decide +kernel
theorem dX8_post_151 : decode cX8_post 151 = .ok (.getfield 91, 3) := by decide +kernel
theorem dX8_post_154 : decode cX8_post 154 = .ok (.aload_n 0, 1) := by decide +kernel
theorem dX8_post_155 : decode cX8_post 155 = .ok (.getfield 88, 3) := by decide +kernel
theorem dX8_post_158 : decode cX8_post 158 = .ok (.iastore, 1) := by decide +kernel
theorem dX8_post_159 : decode cX8_post 159 = .ok (.bipush 12, 2) := by decide +kernel
theorem dX8_post_161 : decode cX8_post 161 = .ok (.aload_n 0, 1) := by decide +kernel
theorem dX8_post_162 : decode cX8_post 162 = .ok (.getfield 91, 3) := by decide +kernel
theorem dX8_post_165 : decode cX8_post 165 = .ok (.imul, 1) := by decide +kernel
theorem dX8_post_166 : decode cX8_post 166 = .ok (.istore 6, 2) := by decide +kernel
theorem dX8_post_168 : decode cX8_post 168 = .ok (.iload 6, 2) := by decide +kernel
theorem dX8_post_170 : decode cX8_post 170 = .ok (.bipush 12, 2) := by decide +kernel
theorem dX8_post_172 : decode cX8_post 172 = .ok (.aload_n 0, 1) := by decide +kernel
theorem dX8_post_173 : decode cX8_post 173 = .ok (.getfield 91, 3) := by decide +kernel
theorem dX8_post_176 : decode cX8_post 176 = .ok (.imul, 1) := by decide +kernel
theorem dX8_post_177 : decode cX8_post 177 = .ok (.bipush 12, 2) := by decide +kernel
theorem dX8_post_179 : decode cX8_post 179 = .ok (.iadd, 1) := by decide +kernel
theorem dX8_post_180 : decode cX8_post 180 = .ok (.if_icmp .ge 17, 3) := by decide +kernel
theorem dX8_post_183 : decode cX8_post 183 = .ok (.aload_n 0, 1) := by decide +kernel
theorem dX8_post_184 : decode cX8_post 184 = .ok (.getfield 41, 3) := by decide +kernel
theorem dX8_post_187 : decode cX8_post 187 = .ok (.iload 6, 2) := by decide +kernel
theorem dX8_post_189 : decode cX8_post 189 = .ok (.iconst (-1), 1) := by decide +kernel
theorem dX8_post_190 : decode cX8_post 190 = .ok (.iastore, 1) := by decide +kernel
theorem dX8_post_191 : decode cX8_post 191 = .ok (.iinc 6 1, 3) := by decide +kernel
theorem dX8_post_194 : decode cX8_post 194 = .ok (.goto (-26), 3) := by decide +kernel
theorem dX8_post_197 : decode cX8_post 197 = .ok (.aload_n 0, 1) := by decide +kernel
theorem dX8_post_198 : decode cX8_post 198 = .ok (.dup, 1) := by decide +kernel
theorem dX8_post_199 : decode cX8_post 199 = .ok (.getfield 91, 3) := by decide +kernel
theorem dX8_post_202 : decode cX8_post 202 = .ok (.iconst 1, 1) := by decide +kernel
theorem dX8_post_203 : decode cX8_post 203 = .ok (.iadd, 1) := by decide +kernel
theorem dX8_post_204 : decode cX8_post 204 = .ok (.putfield 91, 3) := by decide +kernel
theorem dX8_post_207 : decode cX8_post 207 = .ok (.aload_n 0, 1) := by decide +kernel
theorem dX8_post_208 : decode cX8_post 208 = .ok (.getfield 91, 3) := by decide +kernel
theorem dX8_post_211 : decode cX8_post 211 = .ok (.iconst 1, 1) := by decide +kernel
theorem dX8_post_212 : decode cX8_post 212 = .ok (.isub, 1) := by decide +kernel
theorem dX8_post_213 : decode cX8_post 213 = .ok (.ireturn, 1) := by decide +kernel
set_option maxHeartbeats 4000000 in
set_option maxRecDepth 100000 in
theorem c_X8_post (l : Launch) (E : State) (G : kG) (S T : kSt) (o : Int64) (ad : kAd) (xu xc xp : Int32) (hT : okN T) : Met l yX8_post (.code yX8_post cX8_post 7 (some .int) :: wsL_law) ({ frames := 4, cells := 0, slots := 0, locals := 90 } : Room) (va_Pc [.ref (ad 16 0), .int xu, .int xc, .int xp] (kPre E G ad (cto G S T o ad))) (kQi E G (fun r ad1 ct1 => (cPost T xu xc xp = 0 → r = nI (T.2 0 1)) ∧ ad = ad1 ∧ ct1 = cto G S (if cPost T xu xc xp = 0 then oPostM (sI T 24 0 0) xu xc xp else sI T 24 0 (cPost T xu xc xp)) o ad)) 0 0 (kB E.heap.size) := by
  refine Met.ofW (cc := cX8_post) (maxL := 7) (ret := (some .int)) (by decide) rfl ?_
  intro p e s m args below meth c s₁ B hml hv
  obtain ⟨rfl, hM, hK, hW0⟩ := hv
  have hlocks := B.notSynchronized
  have hr := B.returns
  have Z : kZ p m c cX8_post 7 s _ wsL_law RX8 E G := ⟨⟨B.exec, B.bytes, hml, findClass_of_methodNamed B.named, fun w h => atoms_spec (ws := .code yX8_post cX8_post 7 (some .int) :: wsL_law) B.pre w (List.mem_cons_of_mem _ h)⟩, hM, hK⟩
  have hx := Z.1.1
  have hb := Z.1.2.1
  have X := kX.of hW0
  have hl := lv_entry ([.ref (ad 16 0), .int xu, .int xc, .int xp]) (n := 7) (Nat.le_of_ble_eq_true rfl)
  rw [lg_entry_eq]
  generalize (lg_sl ([.ref (ad 16 0), .int xu, .int xc, .int xp]) ++ List.replicate (7 - (lg_sl ([.ref (ad 16 0), .int xu, .int xc, .int xp])).length) Slot.unset).toArray = ls at hl ⊢
  have hl : lv_has ls 7 [(0, .ref (ad 16 0)), (1, .int xu), (2, .int xc), (3, .int xp)] := hl
  have hT0 := hT
  obtain ⟨hT1, hT2, hT3, hT4, hT5, hT6, hT7⟩ := hT0
  have M_33 : ∀ (H : Heap) (locs : List Loc), kX E G s H locs ad (cto G S T o ad) → W p l e (headSpec (Cond.code yX8_post cX8_post 7 (some .int) :: wsL_law) ({ frames := 4, cells := 0, slots := 0, locals := 90 } : Room)).room s m ([.ref (ad 16 0), .int xu, .int xc, .int xp] : List Value).toArray below meth c H locs 0 0 (MQ below (kQi E G (fun r ad1 ct1 => (cPost T xu xc xp = 0 → r = nI (T.2 0 1)) ∧ ad = ad1 ∧ ct1 = cto G S (if cPost T xu xc xp = 0 then oPostM (sI T 24 0 0) xu xc xp else sI T 24 0 (cPost T xu xc xp)) o ad)) ([.ref (ad 16 0), .int xu, .int xc, .int xp] : List Value).toArray s 0 0 (kB E.heap.size)) (F0 m 33 ls [.int (bI (inB xu (T.2 0 0) && (inB xc 6 && (decide (xp = -1) || inB xp (T.2 0 1)))))]) := by
    intro H locs X
    refine lv_istore (lv' := [(4, .int (bI (inB xu (T.2 0 0) && (inB xc 6 && (decide (xp = -1) || inB xp (T.2 0 1)))))), (0, .ref (ad 16 0)), (1, .int xu), (2, .int xc), (3, .int xp)]) hx hb dX8_post_33 hl (by decide) rfl (fun ls hl => ?_)
    have M_86 : ∀ (H : Heap) (locs : List Loc), kX E G s H locs ad (cto G S T o ad) → W p l e (headSpec (Cond.code yX8_post cX8_post 7 (some .int) :: wsL_law) ({ frames := 4, cells := 0, slots := 0, locals := 90 } : Room)).room s m ([.ref (ad 16 0), .int xu, .int xc, .int xp] : List Value).toArray below meth c H locs 0 0 (MQ below (kQi E G (fun r ad1 ct1 => (cPost T xu xc xp = 0 → r = nI (T.2 0 1)) ∧ ad = ad1 ∧ ct1 = cto G S (if cPost T xu xc xp = 0 then oPostM (sI T 24 0 0) xu xc xp else sI T 24 0 (cPost T xu xc xp)) o ad)) ([.ref (ad 16 0), .int xu, .int xc, .int xp] : List Value).toArray s 0 0 (kB E.heap.size)) (F0 m 86 ls [.int (bI ((inB xu (T.2 0 0) && (inB xc 6 && (decide (xp = -1) || inB xp (T.2 0 1)))) && (!gone T (cl xu) && (decide (T.2 0 1 < 80) && (decide (xp = -1) || (decide (T.2 2 (cl xp) = cl xc) && decide (T.1 8 (cl xp) = 0)))))))]) := by
      intro H locs X
      refine lv_istore (lv' := [(5, .int (bI ((inB xu (T.2 0 0) && (inB xc 6 && (decide (xp = -1) || inB xp (T.2 0 1)))) && (!gone T (cl xu) && (decide (T.2 0 1 < 80) && (decide (xp = -1) || (decide (T.2 2 (cl xp) = cl xc) && decide (T.1 8 (cl xp) = 0)))))))), (4, .int (bI (inB xu (T.2 0 0) && (inB xc 6 && (decide (xp = -1) || inB xp (T.2 0 1)))))), (0, .ref (ad 16 0)), (1, .int xu), (2, .int xc), (3, .int xp)]) hx hb dX8_post_86 hl (by decide) rfl (fun ls hl => ?_)
      refine lv_aload_n hx hb dX8_post_88 rfl (lv_at hl 2 rfl) ?_
      refine lv_iload hx hb dX8_post_89 (lv_at hl 1 rfl) ?_
      refine lv_if_ne (tgt := 98) hx hb dX8_post_91 (by decide) (fun c_91 => ?_) (fun c_91 => ?_)
      · have c_91 : (inB xu (T.2 0 0) && (inB xc 6 && (decide (xp = -1) || inB xp (T.2 0 1)))) = true := bI_1 c_91
        refine lv_iload hx hb dX8_post_98 (lv_at hl 0 rfl) ?_
        refine lv_if_eq (tgt := 107) hx hb dX8_post_100 (by decide) (fun c_100 => ?_) (fun c_100 => ?_)
        · have c_100 : (!gone T (cl xu) && (decide (T.2 0 1 < 80) && (decide (xp = -1) || (decide (T.2 2 (cl xp) = cl xc) && decide (T.1 8 (cl xp) = 0))))) = false := by have h := bI_0 c_100; rw [c_91, Bool.true_and] at h; exact h
          refine lv_iconst (v := 2) hx hb dX8_post_107 (by decide) ?_
          refine k_Ri X (k_runV (As := [.int 2]) (rest := []) Z X (c_X8_fails l E G S T o ad 2) (k_cwV 1 Z.1.2.2.2.2 (inU_9 _ (List.mem_of_getElem? (i := 2) rfl)) (inU_9 _ (List.mem_of_getElem? (i := 3) rfl)) (inU_9 _ (List.mem_of_getElem? (i := 4) rfl)) (inU_1 _ (List.mem_of_getElem? (i := 5) rfl)) (inU_9 _ (List.mem_of_getElem? (i := 5) rfl)) rfl rfl (by decide +kernel) ⟨Nat.le_of_ble_eq_true rfl, Nat.le_of_ble_eq_true rfl⟩) (k_recv Z X ct_16 rfl) rfl hl.1 rfl (Nat.le_of_ble_eq_true rfl) dX8_post_108 ⟨Nat.le_of_ble_eq_true rfl, Nat.le_of_ble_eq_true rfl⟩) (fun r_108 ad1 ct1 H locs hp X => ?_)
          obtain ⟨rfl, rfl, rfl⟩ := hp
          refine lv_topi (fun x_108 e_108 => ?_)
          obtain rfl : x_108 = 1 := e_108.trans (by decide)
          refine lv_if_eq (tgt := 116) hx hb dX8_post_111 (by decide) (fun c_111 => ?_) (fun c_111 => ?_)
          · exact absurd c_111 (by decide)
          · refine lv_iconst (v := 0) hx hb dX8_post_114 (by decide) ?_
            have hk : cPost T xu xc xp = 2 := by rw [cPost, if_neg (by rw [c_91]; decide), if_pos c_100]
            exact k_iret Z X hr hlocks rfl (Nat.le_of_ble_eq_true rfl) (Nat.le_of_ble_eq_true rfl) dX8_post_115 ⟨fun h => absurd (hk.symm.trans h) (by decide), rfl, by rw [hk, if_neg (by decide)]⟩
        · have c_100 : (!gone T (cl xu) && (decide (T.2 0 1 < 80) && (decide (xp = -1) || (decide (T.2 2 (cl xp) = cl xc) && decide (T.1 8 (cl xp) = 0))))) = true := by have h := bI_1 c_100; rw [c_91, Bool.true_and] at h; exact h
          refine lv_iconst (v := 0) hx hb dX8_post_103 (by decide) ?_
          refine lv_goto (tgt := 108) hx hb dX8_post_104 (by decide) ?_
          refine k_Ri X (k_runV (As := [.int 0]) (rest := []) Z X (c_X8_fails l E G S T o ad 0) (k_cwV 1 Z.1.2.2.2.2 (inU_9 _ (List.mem_of_getElem? (i := 2) rfl)) (inU_9 _ (List.mem_of_getElem? (i := 3) rfl)) (inU_9 _ (List.mem_of_getElem? (i := 4) rfl)) (inU_1 _ (List.mem_of_getElem? (i := 5) rfl)) (inU_9 _ (List.mem_of_getElem? (i := 5) rfl)) rfl rfl (by decide +kernel) ⟨Nat.le_of_ble_eq_true rfl, Nat.le_of_ble_eq_true rfl⟩) (k_recv Z X ct_16 rfl) rfl hl.1 rfl (Nat.le_of_ble_eq_true rfl) dX8_post_108 ⟨Nat.le_of_ble_eq_true rfl, Nat.le_of_ble_eq_true rfl⟩) (fun r_108 ad1 ct1 H locs hp X => ?_)
          obtain ⟨rfl, rfl, rfl⟩ := hp
          refine lv_topi (fun x_108 e_108 => ?_)
          obtain rfl : x_108 = 0 := e_108.trans (by decide)
          refine lv_if_eq (tgt := 116) hx hb dX8_post_111 (by decide) (fun c_111 => ?_) (fun c_111 => ?_)
          · have q_91 := c_91
            simp only [Bool.and_eq_true, Bool.or_eq_true, decide_eq_true_eq] at q_91
            obtain ⟨q_u, q_c, q_p⟩ := q_91
            obtain ⟨ju, hju, hxu⟩ := inB_of q_u (by omega)
            subst hxu
            have hcu : cl (nI ju) = ju := nI_clamp (by omega)
            obtain ⟨jc, hjc, hxc⟩ := inB_of q_c (by decide)
            subst hxc
            have hcc : cl (nI jc) = jc := nI_clamp (by omega)
            have q_n : T.2 0 1 < 80 := by simp only [Bool.and_eq_true, decide_eq_true_eq] at c_100; exact c_100.2.1
            refine lv_aload_n hx hb dX8_post_116 rfl (lv_at hl 2 rfl) ?_
            refine k_get (index := 23) (j := 7) (ad := ad) (k := 16) (i := 0) Z X ct_16 inlX8 rfl (by decide) (inU_6 _ (List.mem_of_getElem? (i := 11) rfl)) (fun _ h => h) (v := .ref (ad 17 4)) rfl dX8_post_117 ?_
            refine lv_aload_n hx hb dX8_post_120 rfl (lv_at hl 2 rfl) ?_
            refine k_get (index := 91) (j := 6) (ad := ad) (k := 16) (i := 0) Z X ct_16 inlX8 rfl (by decide) (inU_16 _ (List.mem_of_getElem? (i := 12) rfl)) (fun _ h => h) (v := .int (nI (T.2 0 1))) rfl dX8_post_121 ?_
            refine lv_iload_n hx hb dX8_post_124 rfl (lv_at hl 3 rfl) ?_
            refine k_ist (ad := ad) (k := 17) (i := 4) Z X ct_17_4 (vp_in_nI (by first | assumption | omega) (by decide)) dX8_post_125 (fun H locs X => ?_)
            have X : kX E G s H locs ad (cto G S (sN (sI T 24 0 0)  1 (T.2 0 1) ju) o ad) := X.eq (st_17_4 _ _ (by omega))
            refine lv_aload_n hx hb dX8_post_126 rfl (lv_at hl 2 rfl) ?_
            refine k_get (index := 26) (j := 8) (ad := ad) (k := 16) (i := 0) Z X ct_16 inlX8 rfl (by decide) (inU_6 _ (List.mem_of_getElem? (i := 12) rfl)) (fun _ h => h) (v := .ref (ad 17 5)) rfl dX8_post_127 ?_
            refine lv_aload_n hx hb dX8_post_130 rfl (lv_at hl 2 rfl) ?_
            refine k_get (index := 91) (j := 6) (ad := ad) (k := 16) (i := 0) Z X ct_16 inlX8 rfl (by decide) (inU_16 _ (List.mem_of_getElem? (i := 12) rfl)) (fun _ h => h) (v := .int (nI (T.2 0 1))) rfl dX8_post_131 ?_
            refine lv_iload_n hx hb dX8_post_134 rfl (lv_at hl 4 rfl) ?_
            refine k_ist (ad := ad) (k := 17) (i := 5) Z X ct_17_5 (vp_in_nI (by first | assumption | omega) (by decide)) dX8_post_135 (fun H locs X => ?_)
            have X : kX E G s H locs ad (cto G S (sN (sN (sI T 24 0 0)  1 (T.2 0 1) ju)  2 (T.2 0 1) jc) o ad) := X.eq (st_17_5 _ _ (by omega))
            refine lv_aload_n hx hb dX8_post_136 rfl (lv_at hl 2 rfl) ?_
            refine k_get (index := 29) (j := 9) (ad := ad) (k := 16) (i := 0) Z X ct_16 inlX8 rfl (by decide) (inU_6 _ (List.mem_of_getElem? (i := 13) rfl)) (fun _ h => h) (v := .ref (ad 17 6)) rfl dX8_post_137 ?_
            refine lv_aload_n hx hb dX8_post_140 rfl (lv_at hl 2 rfl) ?_
            refine k_get (index := 91) (j := 6) (ad := ad) (k := 16) (i := 0) Z X ct_16 inlX8 rfl (by decide) (inU_16 _ (List.mem_of_getElem? (i := 12) rfl)) (fun _ h => h) (v := .int (nI (T.2 0 1))) rfl dX8_post_141 ?_
            refine lv_iload_n hx hb dX8_post_144 rfl (lv_at hl 5 rfl) ?_
            refine k_ist (ad := ad) (k := 17) (i := 6) Z X ct_17_6 (vp_in_nI (by first | assumption | omega) (by decide)) dX8_post_145 (fun H locs X => ?_)
            have X : kX E G s H locs ad (cto G S (sI (sN (sN (sI T 24 0 0)  1 (T.2 0 1) ju)  2 (T.2 0 1) jc) 5 (T.2 0 1) xp) o ad) := X.eq (st_17_6 _ _ (by omega))
            refine lv_aload_n hx hb dX8_post_146 rfl (lv_at hl 2 rfl) ?_
            refine k_get (index := 35) (j := 11) (ad := ad) (k := 16) (i := 0) Z X ct_16 inlX8 rfl (by decide) (inU_6 _ (List.mem_of_getElem? (i := 15) rfl)) (fun _ h => h) (v := .ref (ad 17 8)) rfl dX8_post_147 ?_
            refine lv_aload_n hx hb dX8_post_150 rfl (lv_at hl 2 rfl) ?_
            refine k_get (index := 91) (j := 6) (ad := ad) (k := 16) (i := 0) Z X ct_16 inlX8 rfl (by decide) (inU_16 _ (List.mem_of_getElem? (i := 12) rfl)) (fun _ h => h) (v := .int (nI (T.2 0 1))) rfl dX8_post_151 ?_
            refine lv_aload_n hx hb dX8_post_154 rfl (lv_at hl 2 rfl) ?_
            refine k_get (index := 88) (j := 0) (ad := ad) (k := 16) (i := 0) Z X ct_16 inlX8 rfl (by decide) (inU_13 _ (List.mem_of_getElem? (i := 6) rfl)) (fun _ h => h) (v := .int (T.1 0 0)) rfl dX8_post_155 ?_
            refine k_ist (ad := ad) (k := 17) (i := 8) Z X ct_17_8 (vp_in_nI (by first | assumption | omega) (by decide)) dX8_post_158 (fun H locs X => ?_)
            have X : kX E G s H locs ad (cto G S (sI (sI (sN (sN (sI T 24 0 0)  1 (T.2 0 1) ju)  2 (T.2 0 1) jc) 5 (T.2 0 1) xp) 6 (T.2 0 1) (T.1 0 0)) o ad) := X.eq (st_17_8 _ _ (by omega))
            refine lv_bipush (v := 12) hx hb dX8_post_159 (by decide) ?_
            refine lv_aload_n hx hb dX8_post_161 rfl (lv_at hl 2 rfl) ?_
            refine k_get (index := 91) (j := 6) (ad := ad) (k := 16) (i := 0) Z X ct_16 inlX8 rfl (by decide) (inU_16 _ (List.mem_of_getElem? (i := 12) rfl)) (fun _ h => h) (v := .int (nI (T.2 0 1))) rfl dX8_post_162 ?_
            refine lv_imul hx hb dX8_post_165 ?_
            refine lv_topi (fun x_165 e_165 => ?_)
            obtain rfl : x_165 = nI (12 * T.2 0 1) := e_165.trans (by rw [show (12 : Int32) = nI 12 from rfl, pk_mul])
            refine lv_istore (lv' := [(6, .int (nI (12 * T.2 0 1))), (5, .int (bI ((inB (nI ju) (T.2 0 0) && (inB (nI jc) 6 && (decide (xp = -1) || inB xp (T.2 0 1)))) && (!gone T (cl (nI ju)) && (decide (T.2 0 1 < 80) && (decide (xp = -1) || (decide (T.2 2 (cl xp) = cl (nI jc)) && decide (T.1 8 (cl xp) = 0)))))))), (4, .int (bI (inB (nI ju) (T.2 0 0) && (inB (nI jc) 6 && (decide (xp = -1) || inB xp (T.2 0 1)))))), (0, .ref (ad 16 0)), (1, .int (nI ju)), (2, .int (nI jc)), (3, .int xp)]) hx hb dX8_post_166 hl (by decide) rfl (fun ls hl => ?_)
            have X : kX E G s H locs ad (cto G S (sR (sI (sI (sN (sN (sI T 24 0 0)  1 (T.2 0 1) ju)  2 (T.2 0 1) jc) 5 (T.2 0 1) xp) 6 (T.2 0 1) (T.1 0 0)) 21 (12 * T.2 0 1) 0 (-1)) o ad) := by rw [sR_0]; exact X
            have LOOP_168 : ∀ (d : Nat) (iq : Nat), iq ≤ 12 → 12 < iq + d → ∀ (H : Heap) (locs : List Loc) (ls : Array Slot), kX E G s H locs ad (cto G S (sR (sI (sI (sN (sN (sI T 24 0 0)  1 (T.2 0 1) ju)  2 (T.2 0 1) jc) 5 (T.2 0 1) xp) 6 (T.2 0 1) (T.1 0 0)) 21 (12 * T.2 0 1) iq (-1)) o ad) → lv_has ls 7 [(6, .int (nI (12 * T.2 0 1 + iq))), (5, .int (bI ((inB (nI ju) (T.2 0 0) && (inB (nI jc) 6 && (decide (xp = -1) || inB xp (T.2 0 1)))) && (!gone T (cl (nI ju)) && (decide (T.2 0 1 < 80) && (decide (xp = -1) || (decide (T.2 2 (cl xp) = cl (nI jc)) && decide (T.1 8 (cl xp) = 0)))))))), (4, .int (bI (inB (nI ju) (T.2 0 0) && (inB (nI jc) 6 && (decide (xp = -1) || inB xp (T.2 0 1)))))), (0, .ref (ad 16 0)), (1, .int (nI ju)), (2, .int (nI jc)), (3, .int xp)] → W p l e (headSpec (Cond.code yX8_post cX8_post 7 (some .int) :: wsL_law) ({ frames := 4, cells := 0, slots := 0, locals := 90 } : Room)).room s m ([.ref (ad 16 0), .int (nI ju), .int (nI jc), .int xp] : List Value).toArray below meth c H locs 0 0 (MQ below (kQi E G (fun r ad1 ct1 => (cPost T (nI ju) (nI jc) xp = 0 → r = nI (T.2 0 1)) ∧ ad = ad1 ∧ ct1 = cto G S (if cPost T (nI ju) (nI jc) xp = 0 then oPostM (sI T 24 0 0) (nI ju) (nI jc) xp else sI T 24 0 (cPost T (nI ju) (nI jc) xp)) o ad)) ([.ref (ad 16 0), .int (nI ju), .int (nI jc), .int xp] : List Value).toArray s 0 0 (kB E.heap.size)) (F0 m 168 ls []) := by
              intro d
              induction d with
              | zero => intro iq h1 h2; intros; exact absurd h2 (by omega)
              | succ d ih =>
                intro iq h1 h2 H locs ls X hl
                refine lv_iload hx hb dX8_post_168 (lv_at hl 0 rfl) ?_
                refine lv_bipush (v := 12) hx hb dX8_post_170 (by decide) ?_
                refine lv_aload_n hx hb dX8_post_172 rfl (lv_at hl 3 rfl) ?_
                refine k_get (index := 91) (j := 6) (ad := ad) (k := 16) (i := 0) Z X ct_16 inlX8 rfl (by decide) (inU_16 _ (List.mem_of_getElem? (i := 12) rfl)) (fun _ h => h) (v := .int (nI (T.2 0 1))) rfl dX8_post_173 ?_
                refine lv_imul hx hb dX8_post_176 ?_
                refine lv_topi (fun x_176 e_176 => ?_)
                obtain rfl : x_176 = nI (12 * T.2 0 1) := e_176.trans (by rw [show (12 : Int32) = nI 12 from rfl, pk_mul])
                refine lv_bipush (v := 12) hx hb dX8_post_177 (by decide) ?_
                refine lv_iadd hx hb dX8_post_179 ?_
                refine lv_topi (fun x_179 e_179 => ?_)
                obtain rfl : x_179 = nI (12 * T.2 0 1 + 12) := e_179.trans (nI_add _ 12)
                refine lv_icmp_ge (tgt := 197) hx hb dX8_post_180 (by decide) (fun c_180 => ?_) (fun c_180 => ?_)
                · have c_180 : (12 * T.2 0 1 + 12) ≤ (12 * T.2 0 1 + iq) := (nI_leI (a := (12 * T.2 0 1 + 12)) (b := (12 * T.2 0 1 + iq)) (by omega) (by omega)).mp c_180
                  have hi : iq = 12 := by omega
                  subst hi
                  refine lv_aload_n hx hb dX8_post_197 rfl (lv_at hl 3 rfl) ?_
                  refine lv_dup hx hb dX8_post_198 rfl ?_
                  refine k_get (index := 91) (j := 6) (ad := ad) (k := 16) (i := 0) Z X ct_16 inlX8 rfl (by decide) (inU_16 _ (List.mem_of_getElem? (i := 12) rfl)) (fun _ h => h) (v := .int (nI (T.2 0 1))) rfl dX8_post_199 ?_
                  refine lv_iconst (v := 1) hx hb dX8_post_202 (by decide) ?_
                  refine lv_iadd hx hb dX8_post_203 ?_
                  refine lv_topi (fun x_203 e_203 => ?_)
                  obtain rfl : x_203 = nI (T.2 0 1 + 1) := e_203.trans (nI_1 _)
                  refine k_put (index := 91) (j := 6) (k := 16) (i := 0) Z X ct_16 inlX8 tyX8_ok nmX8 rfl (by decide) (inU_16 _ (List.mem_of_getElem? (i := 12) rfl)) (fun _ h => h) rfl (Nat.le_of_ble_eq_true rfl) rfl rfl dX8_post_204 (fun H locs X => ?_)
                  have X : kX E G s H locs ad (cto G S (sN (sR (sI (sI (sN (sN (sI T 24 0 0)  1 (T.2 0 1) ju)  2 (T.2 0 1) jc) 5 (T.2 0 1) xp) 6 (T.2 0 1) (T.1 0 0)) 21 (12 * T.2 0 1) 12 (-1)) 0 1 (T.2 0 1 + 1)) o ad) := X.eq (st_messages _)
                  refine lv_aload_n hx hb dX8_post_207 rfl (lv_at hl 3 rfl) ?_
                  refine k_get (index := 91) (j := 6) (ad := ad) (k := 16) (i := 0) Z X ct_16 inlX8 rfl (by decide) (inU_16 _ (List.mem_of_getElem? (i := 12) rfl)) (fun _ h => h) (v := .int (nI (T.2 0 1 + 1))) rfl dX8_post_208 ?_
                  refine lv_iconst (v := 1) hx hb dX8_post_211 (by decide) ?_
                  refine lv_isub hx hb dX8_post_212 ?_
                  refine lv_topi (fun x_212 e_212 => ?_)
                  obtain rfl : x_212 = nI (T.2 0 1) := e_212.trans (nI_pred _)
                  have hk : cPost T (nI ju) (nI jc) xp = 0 := by rw [cPost, if_neg (by rw [c_91]; decide), if_neg (by rw [c_100]; decide)]
                  exact k_iret Z X hr hlocks rfl (Nat.le_of_ble_eq_true rfl) (Nat.le_of_ble_eq_true rfl) dX8_post_213 ⟨fun _ => rfl, rfl, (congrArg (fun z => cto G S z o ad) (show (sN (sR (sI (sI (sN (sN (sI T 24 0 0)  1 (T.2 0 1) ju)  2 (T.2 0 1) jc) 5 (T.2 0 1) xp) 6 (T.2 0 1) (T.1 0 0)) 21 (12 * T.2 0 1) 12 (-1)) 0 1 (T.2 0 1 + 1)) = oPostM (sI T 24 0 0) (nI ju) (nI jc) xp from by simp only [oPostM, hcu, hcc]; rfl)).trans (by rw [if_pos hk])⟩
                · have c_180 : ¬ (12 * T.2 0 1 + 12) ≤ (12 * T.2 0 1 + iq) := fun h => c_180 ((nI_leI (a := (12 * T.2 0 1 + 12)) (b := (12 * T.2 0 1 + iq)) (by omega) (by omega)).mpr h)
                  refine lv_aload_n hx hb dX8_post_183 rfl (lv_at hl 3 rfl) ?_
                  refine k_get (index := 41) (j := 13) (ad := ad) (k := 16) (i := 0) Z X ct_16 inlX8 rfl (by decide) (inU_6 _ (List.mem_of_getElem? (i := 17) rfl)) (fun _ h => h) (v := .ref (ad 17 10)) rfl dX8_post_184 ?_
                  refine lv_iload hx hb dX8_post_187 (lv_at hl 0 rfl) ?_
                  refine lv_iconst (v := (-1)) hx hb dX8_post_189 (by decide) ?_
                  refine k_ist (ad := ad) (k := 17) (i := 10) Z X ct_17_10 (vp_in_nI (by first | assumption | omega) (by decide)) dX8_post_190 (fun H locs X => ?_)
                  have X : kX E G s H locs ad (cto G S (sR (sI (sI (sN (sN (sI T 24 0 0)  1 (T.2 0 1) ju)  2 (T.2 0 1) jc) 5 (T.2 0 1) xp) 6 (T.2 0 1) (T.1 0 0)) 21 (12 * T.2 0 1) (iq + 1) (-1)) o ad) := (X.eq (st_17_10 _ _ (by omega))).eq (by rw [sR_s])
                  refine lv_iinc (v := (nI (12 * T.2 0 1 + (iq + 1)))) (lv' := [(6, .int (nI (12 * T.2 0 1 + (iq + 1)))), (5, .int (bI ((inB (nI ju) (T.2 0 0) && (inB (nI jc) 6 && (decide (xp = -1) || inB xp (T.2 0 1)))) && (!gone T (cl (nI ju)) && (decide (T.2 0 1 < 80) && (decide (xp = -1) || (decide (T.2 2 (cl xp) = cl (nI jc)) && decide (T.1 8 (cl xp) = 0)))))))), (4, .int (bI (inB (nI ju) (T.2 0 0) && (inB (nI jc) 6 && (decide (xp = -1) || inB xp (T.2 0 1)))))), (0, .ref (ad 16 0)), (1, .int (nI ju)), (2, .int (nI jc)), (3, .int xp)]) hx hb dX8_post_191 hl (k := 0) rfl (nI_1 _) (by decide) rfl (fun ls hl => ?_)
                  refine lv_goto (tgt := 168) hx hb dX8_post_194 (by decide) ?_
                  exact ih (iq + 1) (by omega) (by omega) _ _ _ X (lv_sub hl [0, 1, 2, 3, 4, 5, 6] rfl)
            exact LOOP_168 13 0 (by omega) (by omega) _ _ _ X (lv_sub hl [0, 1, 2, 3, 4, 5, 6] rfl)
          · exact absurd c_111 (by decide)
      · have c_91 : (inB xu (T.2 0 0) && (inB xc 6 && (decide (xp = -1) || inB xp (T.2 0 1)))) = false := bI_0 c_91
        refine lv_iconst (v := 1) hx hb dX8_post_94 (by decide) ?_
        refine lv_goto (tgt := 108) hx hb dX8_post_95 (by decide) ?_
        refine k_Ri X (k_runV (As := [.int 1]) (rest := []) Z X (c_X8_fails l E G S T o ad 1) (k_cwV 1 Z.1.2.2.2.2 (inU_9 _ (List.mem_of_getElem? (i := 2) rfl)) (inU_9 _ (List.mem_of_getElem? (i := 3) rfl)) (inU_9 _ (List.mem_of_getElem? (i := 4) rfl)) (inU_1 _ (List.mem_of_getElem? (i := 5) rfl)) (inU_9 _ (List.mem_of_getElem? (i := 5) rfl)) rfl rfl (by decide +kernel) ⟨Nat.le_of_ble_eq_true rfl, Nat.le_of_ble_eq_true rfl⟩) (k_recv Z X ct_16 rfl) rfl hl.1 rfl (Nat.le_of_ble_eq_true rfl) dX8_post_108 ⟨Nat.le_of_ble_eq_true rfl, Nat.le_of_ble_eq_true rfl⟩) (fun r_108 ad1 ct1 H locs hp X => ?_)
        obtain ⟨rfl, rfl, rfl⟩ := hp
        refine lv_topi (fun x_108 e_108 => ?_)
        obtain rfl : x_108 = 1 := e_108.trans (by decide)
        refine lv_if_eq (tgt := 116) hx hb dX8_post_111 (by decide) (fun c_111 => ?_) (fun c_111 => ?_)
        · exact absurd c_111 (by decide)
        · refine lv_iconst (v := 0) hx hb dX8_post_114 (by decide) ?_
          have hk : cPost T xu xc xp = 1 := by rw [cPost, if_pos c_91]
          exact k_iret Z X hr hlocks rfl (Nat.le_of_ble_eq_true rfl) (Nat.le_of_ble_eq_true rfl) dX8_post_115 ⟨fun h => absurd (hk.symm.trans h) (by decide), rfl, by rw [hk, if_neg (by decide)]⟩
    refine lv_iload hx hb dX8_post_35 (lv_at hl 0 rfl) ?_
    refine lv_if_eq (tgt := 85) hx hb dX8_post_37 (by decide) (fun c_37 => ?_) (fun c_37 => ?_)
    · have c_37 : (inB xu (T.2 0 0) && (inB xc 6 && (decide (xp = -1) || inB xp (T.2 0 1)))) = false := bI_0 c_37
      refine lv_iconst (v := 0) hx hb dX8_post_85 (by decide) ?_
      exact W.eq (congrArg (fun z => F0 m 86 ls (.int z :: [])) (bI_f (by simp [c_37]))) (M_86 H locs X)
    · have c_37 : (inB xu (T.2 0 0) && (inB xc 6 && (decide (xp = -1) || inB xp (T.2 0 1)))) = true := bI_1 c_37
      have q_37 := c_37
      simp only [Bool.and_eq_true, Bool.or_eq_true, decide_eq_true_eq] at q_37
      obtain ⟨q_u, q_c, q_p⟩ := q_37
      obtain ⟨ju, hju, hxu⟩ := inB_of q_u (by omega)
      subst hxu
      have hcu : cl (nI ju) = ju := nI_clamp (by omega)
      obtain ⟨jc, hjc, hxc⟩ := inB_of q_c (by decide)
      subst hxc
      have hcc : cl (nI jc) = jc := nI_clamp (by omega)
      refine lv_aload_n hx hb dX8_post_40 rfl (lv_at hl 1 rfl) ?_
      refine lv_iload_n hx hb dX8_post_41 rfl (lv_at hl 2 rfl) ?_
      refine k_Ri X (k_runV (As := [.int (nI ju)]) (rest := []) Z X (c_X8_isGone l E G S T o ad ju (by omega)) (k_cwV 1 Z.1.2.2.2.2 (inU_13 _ (List.mem_of_getElem? (i := 2) rfl)) (inU_13 _ (List.mem_of_getElem? (i := 3) rfl)) (inU_13 _ (List.mem_of_getElem? (i := 4) rfl)) (inU_1 _ (List.mem_of_getElem? (i := 5) rfl)) (inU_13 _ (List.mem_of_getElem? (i := 5) rfl)) rfl rfl (by decide +kernel) ⟨Nat.le_of_ble_eq_true rfl, Nat.le_of_ble_eq_true rfl⟩) (k_recv Z X ct_16 rfl) rfl hl.1 rfl (Nat.le_of_ble_eq_true rfl) dX8_post_42 ⟨Nat.le_of_ble_eq_true rfl, Nat.le_of_ble_eq_true rfl⟩) (fun r_42 ad1 ct1 H locs hp X => ?_)
      obtain ⟨rfl, rfl, rfl⟩ := hp
      refine lv_if_ne (tgt := 85) hx hb dX8_post_45 (by decide) (fun c_45 => ?_) (fun c_45 => ?_)
      · have c_45 : (gone T ju) = true := bI_1 c_45
        refine lv_iconst (v := 0) hx hb dX8_post_85 (by decide) ?_
        exact W.eq (congrArg (fun z => F0 m 86 ls (.int z :: [])) (bI_f (by simp [q_u, q_c, hcu, hcc, c_37, c_45]))) (M_86 H locs X)
      · have c_45 : (gone T ju) = false := bI_0 c_45
        refine lv_aload_n hx hb dX8_post_48 rfl (lv_at hl 1 rfl) ?_
        refine k_get (index := 91) (j := 6) (ad := ad) (k := 16) (i := 0) Z X ct_16 inlX8 rfl (by decide) (inU_16 _ (List.mem_of_getElem? (i := 12) rfl)) (fun _ h => h) (v := .int (nI (T.2 0 1))) rfl dX8_post_49 ?_
        refine lv_bipush (v := 80) hx hb dX8_post_52 (by decide) ?_
        refine lv_icmp_ge (tgt := 85) hx hb dX8_post_54 (by decide) (fun c_54 => ?_) (fun c_54 => ?_)
        · have c_54 : 80 ≤ (T.2 0 1) := (nI_leI (a := 80) (b := (T.2 0 1)) (by decide) (by omega)).mp c_54
          have c_54 : ¬ (T.2 0 1) < 80 := by omega
          refine lv_iconst (v := 0) hx hb dX8_post_85 (by decide) ?_
          exact W.eq (congrArg (fun z => F0 m 86 ls (.int z :: [])) (bI_f (by simp [q_u, q_c, hcu, hcc, c_37, c_45, c_54]))) (M_86 H locs X)
        · have c_54 : ¬ 80 ≤ (T.2 0 1) := fun h => c_54 ((nI_leI (a := 80) (b := (T.2 0 1)) (by decide) (by omega)).mpr h)
          have c_54 : T.2 0 1 < 80 := by omega
          refine lv_iload_n hx hb dX8_post_57 rfl (lv_at hl 4 rfl) ?_
          refine lv_iconst (v := (-1)) hx hb dX8_post_58 (by decide) ?_
          refine lv_icmp_eq (tgt := 81) hx hb dX8_post_59 (by decide) (fun c_59 => ?_) (fun c_59 => ?_)
          · refine lv_iconst (v := 1) hx hb dX8_post_81 (by decide) ?_
            refine lv_goto (tgt := 86) hx hb dX8_post_82 (by decide) ?_
            exact W.eq (congrArg (fun z => F0 m 86 ls (.int z :: [])) (bI_t (by simp [q_u, q_c, hcu, hcc, c_37, c_45, c_54, c_59]))) (M_86 H locs X)
          · have c_59p : inB xp (T.2 0 1) = true := q_p.resolve_left c_59
            obtain ⟨jp, hjp, hxp⟩ := inB_of c_59p (by omega)
            subst hxp
            have hcp : cl (nI jp) = jp := nI_clamp (by omega)
            have h5p := hT5 _ hjp
            refine lv_aload_n hx hb dX8_post_62 rfl (lv_at hl 1 rfl) ?_
            refine k_get (index := 26) (j := 8) (ad := ad) (k := 16) (i := 0) Z X ct_16 inlX8 rfl (by decide) (inU_6 _ (List.mem_of_getElem? (i := 12) rfl)) (fun _ h => h) (v := .ref (ad 17 5)) rfl dX8_post_63 ?_
            refine lv_iload_n hx hb dX8_post_66 rfl (lv_at hl 4 rfl) ?_
            refine k_ild (ad := ad) (k := 17) (i := 5) Z X ct_17_5 (vp_in_nI (by first | assumption | omega) (by decide)) dX8_post_67 ?_
            refine lv_topi (fun x_67 e_67 => ?_)
            obtain rfl : x_67 = nI (T.2 2 jp) := e_67.trans (by first | (simp only [nI_clamp (show jp < 2 ^ 31 by omega)]; done) | (simp only [nI_clamp (show jp < 2 ^ 31 by omega)]; rfl) | (simp only [nI_clamp (show jp < 2 ^ 31 by omega)]; simp [sI, sN]; done))
            refine lv_iload_n hx hb dX8_post_68 rfl (lv_at hl 3 rfl) ?_
            refine lv_icmp_ne (tgt := 85) hx hb dX8_post_69 (by decide) (fun c_69 => ?_) (fun c_69 => ?_)
            · have c_69 : ¬ (T.2 2 jp) = jc := fun h => c_69 ((nI_eq (a := (T.2 2 jp)) (b := jc) (by omega) (by omega)).mpr h)
              refine lv_iconst (v := 0) hx hb dX8_post_85 (by decide) ?_
              exact W.eq (congrArg (fun z => F0 m 86 ls (.int z :: [])) (bI_f (by simp [q_u, q_c, hcu, hcc, c_59p, hcp, c_37, c_45, c_54, c_59, c_69]))) (M_86 H locs X)
            · have c_69 : (T.2 2 jp) = jc := (nI_eq (a := (T.2 2 jp)) (b := jc) (by omega) (by omega)).mp c_69
              refine lv_aload_n hx hb dX8_post_72 rfl (lv_at hl 1 rfl) ?_
              refine k_get (index := 38) (j := 12) (ad := ad) (k := 16) (i := 0) Z X ct_16 inlX8 rfl (by decide) (inU_6 _ (List.mem_of_getElem? (i := 16) rfl)) (fun _ h => h) (v := .ref (ad 17 9)) rfl dX8_post_73 ?_
              refine lv_iload_n hx hb dX8_post_76 rfl (lv_at hl 4 rfl) ?_
              refine k_zld (ad := ad) (k := 17) (i := 9) Z X ct_17_9 (vp_in_nI (by first | assumption | omega) (by decide)) dX8_post_77 ?_
              refine lv_topi (fun x_77 e_77 => ?_)
              obtain rfl : x_77 = T.1 8 jp := e_77.trans (by first | (simp only [nI_clamp (show jp < 2 ^ 31 by omega)]; done) | (simp only [nI_clamp (show jp < 2 ^ 31 by omega)]; rfl) | (simp only [nI_clamp (show jp < 2 ^ 31 by omega)]; simp [sI, sN]; done))
              refine lv_if_ne (tgt := 85) hx hb dX8_post_78 (by decide) (fun c_78 => ?_) (fun c_78 => ?_)
              · refine lv_iconst (v := 0) hx hb dX8_post_85 (by decide) ?_
                exact W.eq (congrArg (fun z => F0 m 86 ls (.int z :: [])) (bI_f (by simp [q_u, q_c, hcu, hcc, c_59p, hcp, c_37, c_45, c_54, c_59, c_69, c_78]))) (M_86 H locs X)
              · refine lv_iconst (v := 1) hx hb dX8_post_81 (by decide) ?_
                refine lv_goto (tgt := 86) hx hb dX8_post_82 (by decide) ?_
                exact W.eq (congrArg (fun z => F0 m 86 ls (.int z :: [])) (bI_t (by simp [q_u, q_c, hcu, hcc, c_59p, hcp, c_37, c_45, c_54, c_59, c_69, c_78]))) (M_86 H locs X)
  refine lv_aload_n hx hb dX8_post_0 rfl (lv_at hl 0 rfl) ?_
  refine lv_iload_n hx hb dX8_post_1 rfl (lv_at hl 1 rfl) ?_
  refine k_Ri X (k_runV (As := [.int xu]) (rest := []) Z X (c_X8_isUser l E G S T o ad xu (by omega)) (k_cwV 1 Z.1.2.2.2.2 (inU_12 _ (List.mem_of_getElem? (i := 9) rfl)) (inU_12 _ (List.mem_of_getElem? (i := 10) rfl)) (inU_12 _ (List.mem_of_getElem? (i := 11) rfl)) (inU_1 _ (List.mem_of_getElem? (i := 5) rfl)) (inU_12 _ (List.mem_of_getElem? (i := 12) rfl)) rfl rfl (by decide +kernel) ⟨Nat.le_of_ble_eq_true rfl, Nat.le_of_ble_eq_true rfl⟩) (k_recv Z X ct_16 rfl) rfl hl.1 rfl (Nat.le_of_ble_eq_true rfl) dX8_post_2 ⟨Nat.le_of_ble_eq_true rfl, Nat.le_of_ble_eq_true rfl⟩) (fun r_2 ad1 ct1 H locs hp X => ?_)
  obtain ⟨rfl, rfl, rfl⟩ := hp
  refine lv_if_eq (tgt := 32) hx hb dX8_post_5 (by decide) (fun c_5 => ?_) (fun c_5 => ?_)
  · have c_5 : (inB xu (T.2 0 0)) = false := bI_0 c_5
    refine lv_iconst (v := 0) hx hb dX8_post_32 (by decide) ?_
    exact W.eq (congrArg (fun z => F0 m 33 ls (.int z :: [])) (bI_f (by simp [c_5]))) (M_33 H locs X)
  · have c_5 : (inB xu (T.2 0 0)) = true := bI_1 c_5
    refine lv_iload_n hx hb dX8_post_8 rfl (lv_at hl 2 rfl) ?_
    refine k_Ri X (k_runS (As := [.int xc]) (rest := []) Z X (c_X8_isChannel l E G S T o ad xc) (k_cwS 1 Z.1.2.2.2.2 (inU_14 _ (List.mem_of_getElem? (i := 15) rfl)) (inU_14 _ (List.mem_of_getElem? (i := 16) rfl)) (inU_1 _ (List.mem_of_getElem? (i := 5) rfl)) (inU_14 _ (List.mem_of_getElem? (i := 17) rfl)) rfl rfl (by decide +kernel) ⟨Nat.le_of_ble_eq_true rfl, Nat.le_of_ble_eq_true rfl⟩) rfl hl.1 rfl (Nat.le_of_ble_eq_true rfl) dX8_post_9 ⟨Nat.le_of_ble_eq_true rfl, Nat.le_of_ble_eq_true rfl⟩) (fun r_9 ad1 ct1 H locs hp X => ?_)
    obtain ⟨rfl, rfl, rfl⟩ := hp
    refine lv_if_eq (tgt := 32) hx hb dX8_post_12 (by decide) (fun c_12 => ?_) (fun c_12 => ?_)
    · have c_12 : inB xc 6 = false := (chan_inB xc).symm.trans (bI_0 c_12)
      refine lv_iconst (v := 0) hx hb dX8_post_32 (by decide) ?_
      exact W.eq (congrArg (fun z => F0 m 33 ls (.int z :: [])) (bI_f (by simp [c_5, c_12]))) (M_33 H locs X)
    · have c_12 : inB xc 6 = true := (chan_inB xc).symm.trans (bI_1 c_12)
      refine lv_iload_n hx hb dX8_post_15 rfl (lv_at hl 3 rfl) ?_
      refine lv_iconst (v := (-1)) hx hb dX8_post_16 (by decide) ?_
      refine lv_icmp_eq (tgt := 28) hx hb dX8_post_17 (by decide) (fun c_17 => ?_) (fun c_17 => ?_)
      · refine lv_iconst (v := 1) hx hb dX8_post_28 (by decide) ?_
        refine lv_goto (tgt := 33) hx hb dX8_post_29 (by decide) ?_
        exact W.eq (congrArg (fun z => F0 m 33 ls (.int z :: [])) (bI_t (by simp [c_5, c_12, c_17]))) (M_33 H locs X)
      · refine lv_aload_n hx hb dX8_post_20 rfl (lv_at hl 0 rfl) ?_
        refine lv_iload_n hx hb dX8_post_21 rfl (lv_at hl 3 rfl) ?_
        refine k_Ri X (k_runV (As := [.int xp]) (rest := []) Z X (c_X8_isMessage l E G S T o ad xp (by omega)) (k_cwV 1 Z.1.2.2.2.2 (inU_16 _ (List.mem_of_getElem? (i := 13) rfl)) (inU_16 _ (List.mem_of_getElem? (i := 14) rfl)) (inU_16 _ (List.mem_of_getElem? (i := 15) rfl)) (inU_1 _ (List.mem_of_getElem? (i := 5) rfl)) (inU_16 _ (List.mem_of_getElem? (i := 16) rfl)) rfl rfl (by decide +kernel) ⟨Nat.le_of_ble_eq_true rfl, Nat.le_of_ble_eq_true rfl⟩) (k_recv Z X ct_16 rfl) rfl hl.1 rfl (Nat.le_of_ble_eq_true rfl) dX8_post_22 ⟨Nat.le_of_ble_eq_true rfl, Nat.le_of_ble_eq_true rfl⟩) (fun r_22 ad1 ct1 H locs hp X => ?_)
        obtain ⟨rfl, rfl, rfl⟩ := hp
        refine lv_if_eq (tgt := 32) hx hb dX8_post_25 (by decide) (fun c_25 => ?_) (fun c_25 => ?_)
        · have c_25 : (inB xp (T.2 0 1)) = false := bI_0 c_25
          refine lv_iconst (v := 0) hx hb dX8_post_32 (by decide) ?_
          exact W.eq (congrArg (fun z => F0 m 33 ls (.int z :: [])) (bI_f (by simp [c_5, c_12, c_17, c_25]))) (M_33 H locs X)
        · have c_25 : (inB xp (T.2 0 1)) = true := bI_1 c_25
          refine lv_iconst (v := 1) hx hb dX8_post_28 (by decide) ?_
          refine lv_goto (tgt := 33) hx hb dX8_post_29 (by decide) ?_
          exact W.eq (congrArg (fun z => F0 m 33 ls (.int z :: [])) (bI_t (by simp [c_5, c_12, c_17, c_25]))) (M_33 H locs X)
theorem dX8_edit_0 : decode cX8_edit 0 = .ok (.aload_n 0, 1) := by decide +kernel
theorem dX8_edit_1 : decode cX8_edit 1 = .ok (.iload_n 1, 1) := by decide +kernel
theorem dX8_edit_2 : decode cX8_edit 2 = .ok (.invokevirtual 114, 3) := by decide +kernel
theorem dX8_edit_5 : decode cX8_edit 5 = .ok (.ifCond .eq 15, 3) := by decide +kernel
theorem dX8_edit_8 : decode cX8_edit 8 = .ok (.aload_n 0, 1) := by decide +kernel
theorem dX8_edit_9 : decode cX8_edit 9 = .ok (.iload_n 2, 1) := by decide +kernel
theorem dX8_edit_10 : decode cX8_edit 10 = .ok (.invokevirtual 125, 3) := by decide +kernel
theorem dX8_edit_13 : decode cX8_edit 13 = .ok (.ifCond .eq 7, 3) := by decide +kernel
theorem dX8_edit_16 : decode cX8_edit 16 = .ok (.iconst 1, 1) := by decide +kernel
theorem dX8_edit_17 : decode cX8_edit 17 = .ok (.goto 4, 3) := by decide +kernel
theorem dX8_edit_20 : decode cX8_edit 20 = .ok (.iconst 0, 1) := by decide +kernel
theorem dX8_edit_21 : decode cX8_edit 21 = .ok (.istore_n 3, 1) := by decide +kernel
theorem dX8_edit_22 : decode cX8_edit 22 = .ok (.aload_n 0, 1) := by decide +kernel
theorem dX8_edit_23 : decode cX8_edit 23 = .ok (.iload_n 3, 1) := by decide +kernel
theorem dX8_edit_24 : decode cX8_edit 24 = .ok (.ifCond .ne 7, 3) := by decide +kernel
theorem dX8_edit_27 : decode cX8_edit 27 = .ok (.iconst 1, 1) := by decide +kernel
theorem dX8_edit_28 : decode cX8_edit 28 = .ok (.goto 35, 3) := by decide +kernel
theorem dX8_edit_31 : decode cX8_edit 31 = .ok (.aload_n 0, 1) := by decide +kernel
theorem dX8_edit_32 : decode cX8_edit 32 = .ok (.iload_n 1, 1) := by decide +kernel
theorem dX8_edit_33 : decode cX8_edit 33 = .ok (.invokevirtual 94, 3) := by decide +kernel
theorem dX8_edit_36 : decode cX8_edit 36 = .ok (.ifCond .ne 22, 3) := by decide +kernel
theorem dX8_edit_39 : decode cX8_edit 39 = .ok (.aload_n 0, 1) := by decide +kernel
theorem dX8_edit_40 : decode cX8_edit 40 = .ok (.getfield 23, 3) := by decide +kernel
theorem dX8_edit_43 : decode cX8_edit 43 = .ok (.iload_n 2, 1) := by decide +kernel
theorem dX8_edit_44 : decode cX8_edit 44 = .ok (.iaload, 1) := by decide +kernel
theorem dX8_edit_45 : decode cX8_edit 45 = .ok (.iload_n 1, 1) := by decide +kernel
theorem dX8_edit_46 : decode cX8_edit 46 = .ok (.if_icmp .ne 12, 3) := by decide +kernel
theorem dX8_edit_49 : decode cX8_edit 49 = .ok (.aload_n 0, 1) := by decide +kernel
theorem dX8_edit_50 : decode cX8_edit 50 = .ok (.getfield 38, 3) := by decide +kernel
theorem dX8_edit_53 : decode cX8_edit 53 = .ok (.iload_n 2, 1) := by decide +kernel
theorem dX8_edit_54 : decode cX8_edit 54 = .ok (.baload, 1) := by decide +kernel
theorem dX8_edit_55 : decode cX8_edit 55 = .ok (.ifCond .eq 7, 3) := by decide +kernel
theorem dX8_edit_58 : decode cX8_edit 58 = .ok (.iconst 2, 1) := by decide +kernel
theorem dX8_edit_59 : decode cX8_edit 59 = .ok (.goto 4, 3) := by decide +kernel
theorem dX8_edit_62 : decode cX8_edit 62 = .ok (.iconst 0, 1) := by decide +kernel
theorem dX8_edit_63 : decode cX8_edit 63 = .ok (.invokevirtual 111, 3) := by decide +kernel
theorem dX8_edit_66 : decode cX8_edit 66 = .ok (.ifCond .eq 5, 3) := by decide +kernel
theorem dX8_edit_69 : decode cX8_edit 69 = .ok (.iconst 0, 1) := by decide +kernel
theorem dX8_edit_70 : decode cX8_edit 70 = .ok (.ireturn, 1) := by decide +kernel
theorem dX8_edit_71 : decode cX8_edit 71 = .ok (.aload_n 0, 1) := by decide +kernel
theorem dX8_edit_72 : decode cX8_edit 72 = .ok (.getfield 32, 3) := by decide +kernel
theorem dX8_edit_75 : decode cX8_edit 75 = .ok (.iload_n 2, 1) := by decide +kernel
theorem dX8_edit_76 : decode cX8_edit 76 = .ok (.dup2, 1) := by decide +kernel
theorem dX8_edit_77 : decode cX8_edit 77 = .ok (.iaload, 1) := by decide +kernel
theorem dX8_edit_78 : decode cX8_edit 78 = .ok (.iconst 1, 1) := by decide +kernel
theorem dX8_edit_79 : decode cX8_edit 79 = .ok (.iadd, 1) := by decide +kernel
theorem dX8_edit_80 : decode cX8_edit 80 = .ok (.iastore, 1) := by decide +kernel
theorem dX8_edit_81 : decode cX8_edit 81 = .ok (.iconst 0, 1) := by decide +kernel
theorem dX8_edit_82 : decode cX8_edit 82 = .ok (.istore 4, 2) := by decide +kernel
theorem dX8_edit_84 : decode cX8_edit 84 = .ok (.iload 4, 2) := by decide +kernel
theorem dX8_edit_86 : decode cX8_edit 86 = .ok (.aload_n 0, 1) := by decide +kernel
theorem dX8_edit_87 : decode cX8_edit 87 = .ok (.getfield 128, 3) := by decide +kernel
theorem dX8_edit_90 : decode cX8_edit 90 = .ok (.if_icmp .ge 48, 3) := by decide +kernel
theorem dX8_edit_93 : decode cX8_edit 93 = .ok (.aload_n 0, 1) := by decide +kernel
theorem dX8_edit_94 : decode cX8_edit 94 = .ok (.getfield 71, 3) := by decide +kernel
theorem dX8_edit_97 : decode cX8_edit 97 = .ok (.iload 4, 2) := by decide +kernel
theorem dX8_edit_99 : decode cX8_edit 99 = .ok (.aload_n 0, 1) := by decide +kernel
theorem dX8_edit_100 : decode cX8_edit 100 = .ok (.getfield 59, 3) := by decide +kernel
theorem dX8_edit_103 : decode cX8_edit 103 = .ok (.iload 4, 2) := by decide +kernel
theorem dX8_edit_105 : decode cX8_edit 105 = .ok (.iaload, 1) := by decide +kernel
theorem dX8_edit_106 : decode cX8_edit 106 = .ok (.iload_n 2, 1) := by decide +kernel
theorem dX8_edit_107 : decode cX8_edit 107 = .ok (.if_icmp .ne 17, 3) := by decide +kernel
theorem dX8_edit_110 : decode cX8_edit 110 = .ok (.aload_n 0, 1) := by decide +kernel
theorem dX8_edit_111 : decode cX8_edit 111 = .ok (.getfield 71, 3) := by decide +kernel
theorem dX8_edit_114 : decode cX8_edit 114 = .ok (.iload 4, 2) := by decide +kernel
theorem dX8_edit_116 : decode cX8_edit 116 = .ok (.iaload, 1) := by decide +kernel
theorem dX8_edit_117 : decode cX8_edit 117 = .ok (.ifCond .ne 7, 3) := by decide +kernel
theorem dX8_edit_120 : decode cX8_edit 120 = .ok (.iconst 2, 1) := by decide +kernel
theorem dX8_edit_121 : decode cX8_edit 121 = .ok (.goto 10, 3) := by decide +kernel
theorem dX8_edit_124 : decode cX8_edit 124 = .ok (.aload_n 0, 1) := by decide +kernel
theorem dX8_edit_125 : decode cX8_edit 125 = .ok (.getfield 71, 3) := by decide +kernel
theorem dX8_edit_128 : decode cX8_edit 128 = .ok (.iload 4, 2) := by decide +kernel
theorem dX8_edit_130 : decode cX8_edit 130 = .ok (.iaload, 1) := by decide +kernel
theorem dX8_edit_131 : decode cX8_edit 131 = .ok (.iastore, 1) := by decide +kernel
theorem dX8_edit_132 : decode cX8_edit 132 = .ok (.iinc 4 1, 3) := by decide +kernel
theorem dX8_edit_135 : decode cX8_edit 135 = .ok (.goto (-51), 3) := by decide +kernel
theorem dX8_edit_138 : decode cX8_edit 138 = .ok (.aload_n 0, 1) := by decide +kernel
theorem dX8_edit_139 : decode cX8_edit 139 = .ok (.invokevirtual 117, 3) := by decide +kernel
theorem dX8_edit_142 : decode cX8_edit 142 = .ok (.aload_n 0, 1) := by decide +kernel
theorem dX8_edit_143 : decode cX8_edit 143 = .ok (.getfield 32, 3) := by decide +kernel
theorem dX8_edit_146 : decode cX8_edit 146 = .ok (.iload_n 2, 1) := by decide +kernel
theorem dX8_edit_147 : decode cX8_edit 147 = .ok (.iaload, 1) := by decide +kernel
theorem dX8_edit_148 : decode cX8_edit 148 = .ok (.ireturn, 1) := by decide +kernel
set_option maxHeartbeats 4000000 in
set_option maxRecDepth 100000 in
theorem c_X8_edit (l : Launch) (E : State) (G : kG) (S T : kSt) (o : Int64) (ad : kAd) (xu xm : Int32) (hT : okN T) : Met l yX8_edit (.code yX8_edit cX8_edit 5 (some .int) :: wsL_law) ({ frames := 6, cells := 0, slots := 0, locals := 130 } : Room) (va_Pc [.ref (ad 16 0), .int xu, .int xm] (kPre E G ad (cto G S T o ad))) (kQi E G (fun r ad1 ct1 => (cEdit T xu xm = 0 → r = T.1 7 (cl xm) + 1) ∧ ad = ad1 ∧ ct1 = cto G S (if cEdit T xu xm = 0 then oEditM (sI T 24 0 0) xm else sI T 24 0 (cEdit T xu xm)) o ad)) 0 0 (kB E.heap.size) := by
  refine Met.ofW (cc := cX8_edit) (maxL := 5) (ret := (some .int)) (by decide) rfl ?_
  intro p e s m args below meth c s₁ B hml hv
  obtain ⟨rfl, hM, hK, hW0⟩ := hv
  have hlocks := B.notSynchronized
  have hr := B.returns
  have Z : kZ p m c cX8_edit 5 s _ wsL_law RX8 E G := ⟨⟨B.exec, B.bytes, hml, findClass_of_methodNamed B.named, fun w h => atoms_spec (ws := .code yX8_edit cX8_edit 5 (some .int) :: wsL_law) B.pre w (List.mem_cons_of_mem _ h)⟩, hM, hK⟩
  have hx := Z.1.1
  have hb := Z.1.2.1
  have X := kX.of hW0
  have hl := lv_entry ([.ref (ad 16 0), .int xu, .int xm]) (n := 5) (Nat.le_of_ble_eq_true rfl)
  rw [lg_entry_eq]
  generalize (lg_sl ([.ref (ad 16 0), .int xu, .int xm]) ++ List.replicate (5 - (lg_sl ([.ref (ad 16 0), .int xu, .int xm])).length) Slot.unset).toArray = ls at hl ⊢
  have hl : lv_has ls 5 [(0, .ref (ad 16 0)), (1, .int xu), (2, .int xm)] := hl
  have hT0 := hT
  obtain ⟨hT1, hT2, hT3, hT4, hT5, hT6, hT7⟩ := hT0
  have M_21 : ∀ (H : Heap) (locs : List Loc), kX E G s H locs ad (cto G S T o ad) → W p l e (headSpec (Cond.code yX8_edit cX8_edit 5 (some .int) :: wsL_law) ({ frames := 6, cells := 0, slots := 0, locals := 130 } : Room)).room s m ([.ref (ad 16 0), .int xu, .int xm] : List Value).toArray below meth c H locs 0 0 (MQ below (kQi E G (fun r ad1 ct1 => (cEdit T xu xm = 0 → r = T.1 7 (cl xm) + 1) ∧ ad = ad1 ∧ ct1 = cto G S (if cEdit T xu xm = 0 then oEditM (sI T 24 0 0) xm else sI T 24 0 (cEdit T xu xm)) o ad)) ([.ref (ad 16 0), .int xu, .int xm] : List Value).toArray s 0 0 (kB E.heap.size)) (F0 m 21 ls [.int (bI (inB xu (T.2 0 0) && inB xm (T.2 0 1)))]) := by
    intro H locs X
    refine lv_istore_n (lv' := [(3, .int (bI (inB xu (T.2 0 0) && inB xm (T.2 0 1)))), (0, .ref (ad 16 0)), (1, .int xu), (2, .int xm)]) hx hb dX8_edit_21 rfl hl (by decide) rfl (fun ls hl => ?_)
    refine lv_aload_n hx hb dX8_edit_22 rfl (lv_at hl 1 rfl) ?_
    refine lv_iload_n hx hb dX8_edit_23 rfl (lv_at hl 0 rfl) ?_
    refine lv_if_ne (tgt := 31) hx hb dX8_edit_24 (by decide) (fun c_24 => ?_) (fun c_24 => ?_)
    · have c_24 : (inB xu (T.2 0 0) && inB xm (T.2 0 1)) = true := bI_1 c_24
      have q_24 := c_24
      simp only [Bool.and_eq_true] at q_24
      obtain ⟨q_u, q_m⟩ := q_24
      obtain ⟨ju, hju, hxu⟩ := inB_of q_u (by omega)
      subst hxu
      have hcu : cl (nI ju) = ju := nI_clamp (by omega)
      obtain ⟨jm, hjm, hxm⟩ := inB_of q_m (by omega)
      subst hxm
      have hcm : cl (nI jm) = jm := nI_clamp (by omega)
      refine lv_aload_n hx hb dX8_edit_31 rfl (lv_at hl 1 rfl) ?_
      refine lv_iload_n hx hb dX8_edit_32 rfl (lv_at hl 2 rfl) ?_
      refine k_Ri X (k_runV (As := [.int (nI ju)]) (rest := [.ref (ad 16 0)]) Z X (c_X8_isGone l E G S T o ad ju (by omega)) (k_cwV 1 Z.1.2.2.2.2 (inU_13 _ (List.mem_of_getElem? (i := 2) rfl)) (inU_13 _ (List.mem_of_getElem? (i := 3) rfl)) (inU_13 _ (List.mem_of_getElem? (i := 4) rfl)) (inU_1 _ (List.mem_of_getElem? (i := 5) rfl)) (inU_13 _ (List.mem_of_getElem? (i := 5) rfl)) rfl rfl (by decide +kernel) ⟨Nat.le_of_ble_eq_true rfl, Nat.le_of_ble_eq_true rfl⟩) (k_recv Z X ct_16 rfl) rfl hl.1 rfl (Nat.le_of_ble_eq_true rfl) dX8_edit_33 ⟨Nat.le_of_ble_eq_true rfl, Nat.le_of_ble_eq_true rfl⟩) (fun r_33 ad1 ct1 H locs hp X => ?_)
      obtain ⟨rfl, rfl, rfl⟩ := hp
      refine lv_if_ne (tgt := 58) hx hb dX8_edit_36 (by decide) (fun c_36 => ?_) (fun c_36 => ?_)
      · have c_36 : (gone T ju) = true := bI_1 c_36
        refine lv_iconst (v := 2) hx hb dX8_edit_58 (by decide) ?_
        refine lv_goto (tgt := 63) hx hb dX8_edit_59 (by decide) ?_
        refine k_Ri X (k_runV (As := [.int 2]) (rest := []) Z X (c_X8_fails l E G S T o ad 2) (k_cwV 1 Z.1.2.2.2.2 (inU_9 _ (List.mem_of_getElem? (i := 2) rfl)) (inU_9 _ (List.mem_of_getElem? (i := 3) rfl)) (inU_9 _ (List.mem_of_getElem? (i := 4) rfl)) (inU_1 _ (List.mem_of_getElem? (i := 5) rfl)) (inU_9 _ (List.mem_of_getElem? (i := 5) rfl)) rfl rfl (by decide +kernel) ⟨Nat.le_of_ble_eq_true rfl, Nat.le_of_ble_eq_true rfl⟩) (k_recv Z X ct_16 rfl) rfl hl.1 rfl (Nat.le_of_ble_eq_true rfl) dX8_edit_63 ⟨Nat.le_of_ble_eq_true rfl, Nat.le_of_ble_eq_true rfl⟩) (fun r_63 ad1 ct1 H locs hp X => ?_)
        obtain ⟨rfl, rfl, rfl⟩ := hp
        refine lv_topi (fun x_63 e_63 => ?_)
        obtain rfl : x_63 = 1 := e_63.trans (by decide)
        refine lv_if_eq (tgt := 71) hx hb dX8_edit_66 (by decide) (fun c_66 => ?_) (fun c_66 => ?_)
        · exact absurd c_66 (by decide)
        · refine lv_iconst (v := 0) hx hb dX8_edit_69 (by decide) ?_
          have hk : cEdit T (nI ju) (nI jm) = 2 := by rw [cEdit, if_neg (by rw [c_24]; decide), if_pos (by simp [q_u, hcu, q_m, hcm, c_36, c_66])]
          exact k_iret Z X hr hlocks rfl (Nat.le_of_ble_eq_true rfl) (Nat.le_of_ble_eq_true rfl) dX8_edit_70 ⟨fun h => absurd (hk.symm.trans h) (by decide), rfl, by rw [hk, if_neg (by decide)]⟩
      · have c_36 : (gone T ju) = false := bI_0 c_36
        refine lv_aload_n hx hb dX8_edit_39 rfl (lv_at hl 1 rfl) ?_
        refine k_get (index := 23) (j := 7) (ad := ad) (k := 16) (i := 0) Z X ct_16 inlX8 rfl (by decide) (inU_6 _ (List.mem_of_getElem? (i := 11) rfl)) (fun _ h => h) (v := .ref (ad 17 4)) rfl dX8_edit_40 ?_
        refine lv_iload_n hx hb dX8_edit_43 rfl (lv_at hl 3 rfl) ?_
        refine k_ild (ad := ad) (k := 17) (i := 4) Z X ct_17_4 (vp_in_nI (by first | assumption | omega) (by decide)) dX8_edit_44 ?_
        refine lv_topi (fun x_44 e_44 => ?_)
        obtain rfl : x_44 = nI (T.2 1 jm) := e_44.trans (by first | (simp only [nI_clamp (show jm < 2 ^ 31 by omega)]; done) | (simp only [nI_clamp (show jm < 2 ^ 31 by omega)]; rfl) | (simp only [nI_clamp (show jm < 2 ^ 31 by omega)]; simp [sI, sN]; done))
        refine lv_iload_n hx hb dX8_edit_45 rfl (lv_at hl 2 rfl) ?_
        refine lv_icmp_ne (tgt := 58) hx hb dX8_edit_46 (by decide) (fun c_46 => ?_) (fun c_46 => ?_)
        · have c_46 : ¬ (T.2 1 jm) = ju := fun h => c_46 ((nI_eq (a := (T.2 1 jm)) (b := ju) (by have := (hT5 jm hjm).1; omega) (by omega)).mpr h)
          refine lv_iconst (v := 2) hx hb dX8_edit_58 (by decide) ?_
          refine lv_goto (tgt := 63) hx hb dX8_edit_59 (by decide) ?_
          refine k_Ri X (k_runV (As := [.int 2]) (rest := []) Z X (c_X8_fails l E G S T o ad 2) (k_cwV 1 Z.1.2.2.2.2 (inU_9 _ (List.mem_of_getElem? (i := 2) rfl)) (inU_9 _ (List.mem_of_getElem? (i := 3) rfl)) (inU_9 _ (List.mem_of_getElem? (i := 4) rfl)) (inU_1 _ (List.mem_of_getElem? (i := 5) rfl)) (inU_9 _ (List.mem_of_getElem? (i := 5) rfl)) rfl rfl (by decide +kernel) ⟨Nat.le_of_ble_eq_true rfl, Nat.le_of_ble_eq_true rfl⟩) (k_recv Z X ct_16 rfl) rfl hl.1 rfl (Nat.le_of_ble_eq_true rfl) dX8_edit_63 ⟨Nat.le_of_ble_eq_true rfl, Nat.le_of_ble_eq_true rfl⟩) (fun r_63 ad1 ct1 H locs hp X => ?_)
          obtain ⟨rfl, rfl, rfl⟩ := hp
          refine lv_topi (fun x_63 e_63 => ?_)
          obtain rfl : x_63 = 1 := e_63.trans (by decide)
          refine lv_if_eq (tgt := 71) hx hb dX8_edit_66 (by decide) (fun c_66 => ?_) (fun c_66 => ?_)
          · exact absurd c_66 (by decide)
          · refine lv_iconst (v := 0) hx hb dX8_edit_69 (by decide) ?_
            have hk : cEdit T (nI ju) (nI jm) = 2 := by rw [cEdit, if_neg (by rw [c_24]; decide), if_pos (by simp [q_u, hcu, q_m, hcm, c_36, c_46, c_66])]
            exact k_iret Z X hr hlocks rfl (Nat.le_of_ble_eq_true rfl) (Nat.le_of_ble_eq_true rfl) dX8_edit_70 ⟨fun h => absurd (hk.symm.trans h) (by decide), rfl, by rw [hk, if_neg (by decide)]⟩
        · have c_46 : (T.2 1 jm) = ju := (nI_eq (a := (T.2 1 jm)) (b := ju) (by have := (hT5 jm hjm).1; omega) (by omega)).mp c_46
          refine lv_aload_n hx hb dX8_edit_49 rfl (lv_at hl 1 rfl) ?_
          refine k_get (index := 38) (j := 12) (ad := ad) (k := 16) (i := 0) Z X ct_16 inlX8 rfl (by decide) (inU_6 _ (List.mem_of_getElem? (i := 16) rfl)) (fun _ h => h) (v := .ref (ad 17 9)) rfl dX8_edit_50 ?_
          refine lv_iload_n hx hb dX8_edit_53 rfl (lv_at hl 3 rfl) ?_
          refine k_zld (ad := ad) (k := 17) (i := 9) Z X ct_17_9 (vp_in_nI (by first | assumption | omega) (by decide)) dX8_edit_54 ?_
          refine lv_topi (fun x_54 e_54 => ?_)
          obtain rfl : x_54 = T.1 8 jm := e_54.trans (by first | (simp only [nI_clamp (show jm < 2 ^ 31 by omega)]; done) | (simp only [nI_clamp (show jm < 2 ^ 31 by omega)]; rfl) | (simp only [nI_clamp (show jm < 2 ^ 31 by omega)]; simp [sI, sN]; done))
          refine lv_if_eq (tgt := 62) hx hb dX8_edit_55 (by decide) (fun c_55 => ?_) (fun c_55 => ?_)
          · refine lv_iconst (v := 0) hx hb dX8_edit_62 (by decide) ?_
            refine k_Ri X (k_runV (As := [.int 0]) (rest := []) Z X (c_X8_fails l E G S T o ad 0) (k_cwV 1 Z.1.2.2.2.2 (inU_9 _ (List.mem_of_getElem? (i := 2) rfl)) (inU_9 _ (List.mem_of_getElem? (i := 3) rfl)) (inU_9 _ (List.mem_of_getElem? (i := 4) rfl)) (inU_1 _ (List.mem_of_getElem? (i := 5) rfl)) (inU_9 _ (List.mem_of_getElem? (i := 5) rfl)) rfl rfl (by decide +kernel) ⟨Nat.le_of_ble_eq_true rfl, Nat.le_of_ble_eq_true rfl⟩) (k_recv Z X ct_16 rfl) rfl hl.1 rfl (Nat.le_of_ble_eq_true rfl) dX8_edit_63 ⟨Nat.le_of_ble_eq_true rfl, Nat.le_of_ble_eq_true rfl⟩) (fun r_63 ad1 ct1 H locs hp X => ?_)
            obtain ⟨rfl, rfl, rfl⟩ := hp
            refine lv_topi (fun x_63 e_63 => ?_)
            obtain rfl : x_63 = 0 := e_63.trans (by decide)
            refine lv_if_eq (tgt := 71) hx hb dX8_edit_66 (by decide) (fun c_66 => ?_) (fun c_66 => ?_)
            · refine lv_aload_n hx hb dX8_edit_71 rfl (lv_at hl 1 rfl) ?_
              refine k_get (index := 32) (j := 10) (ad := ad) (k := 16) (i := 0) Z X ct_16 inlX8 rfl (by decide) (inU_6 _ (List.mem_of_getElem? (i := 14) rfl)) (fun _ h => h) (v := .ref (ad 17 7)) rfl dX8_edit_72 ?_
              refine lv_iload_n hx hb dX8_edit_75 rfl (lv_at hl 3 rfl) ?_
              refine lv_dup2_11 hx hb dX8_edit_76 rfl rfl ?_
              refine k_ild (ad := ad) (k := 17) (i := 7) Z X ct_17_7 (vp_in_nI (by first | assumption | omega) (by decide)) dX8_edit_77 ?_
              refine lv_topi (fun x_77 e_77 => ?_)
              obtain rfl : x_77 = T.1 7 jm := e_77.trans (by first | (simp only [nI_clamp (show jm < 2 ^ 31 by omega)]; done) | (simp only [nI_clamp (show jm < 2 ^ 31 by omega)]; rfl) | (simp only [nI_clamp (show jm < 2 ^ 31 by omega)]; simp [sI, sN]; done))
              refine lv_iconst (v := 1) hx hb dX8_edit_78 (by decide) ?_
              refine lv_iadd hx hb dX8_edit_79 ?_
              refine k_ist (ad := ad) (k := 17) (i := 7) Z X ct_17_7 (vp_in_nI (by first | assumption | omega) (by decide)) dX8_edit_80 (fun H locs X => ?_)
              have X : kX E G s H locs ad (cto G S (sI (sI T 24 0 0) 7 jm ((T.1 7 jm) + 1)) o ad) := X.eq (st_17_7 _ _ (by omega))
              refine lv_iconst (v := 0) hx hb dX8_edit_81 (by decide) ?_
              refine lv_istore (lv' := [(4, .int 0), (3, .int (bI (inB (nI ju) (T.2 0 0) && inB (nI jm) (T.2 0 1)))), (0, .ref (ad 16 0)), (1, .int (nI ju)), (2, .int (nI jm))]) hx hb dX8_edit_82 hl (by decide) rfl (fun ls hl => ?_)
              have LOOP_84 : ∀ (d : Nat) (n : Nat), n ≤ T.2 0 3 → T.2 0 3 < n + d → ∀ (H : Heap) (locs : List Loc) (ls : Array Slot), kX E G s H locs ad (cto G S (drp (sI (sI T 24 0 0) 7 jm (T.1 7 jm + 1)) jm n) o ad) → lv_has ls 5 [(4, .int (nI n)), (3, .int (bI (inB (nI ju) (T.2 0 0) && inB (nI jm) (T.2 0 1)))), (0, .ref (ad 16 0)), (1, .int (nI ju)), (2, .int (nI jm))] → W p l e (headSpec (Cond.code yX8_edit cX8_edit 5 (some .int) :: wsL_law) ({ frames := 6, cells := 0, slots := 0, locals := 130 } : Room)).room s m ([.ref (ad 16 0), .int (nI ju), .int (nI jm)] : List Value).toArray below meth c H locs 0 0 (MQ below (kQi E G (fun r ad1 ct1 => (cEdit T (nI ju) (nI jm) = 0 → r = T.1 7 (cl (nI jm)) + 1) ∧ ad = ad1 ∧ ct1 = cto G S (if cEdit T (nI ju) (nI jm) = 0 then oEditM (sI T 24 0 0) (nI jm) else sI T 24 0 (cEdit T (nI ju) (nI jm))) o ad)) ([.ref (ad 16 0), .int (nI ju), .int (nI jm)] : List Value).toArray s 0 0 (kB E.heap.size)) (F0 m 84 ls []) := by
                intro d
                induction d with
                | zero => intro n h1 h2; intros; exact absurd h2 (by omega)
                | succ d ih =>
                  intro n h1 h2 H locs ls X hl
                  obtain ⟨s2, s1, s14⟩ := drp_r (sI (sI T 24 0 0) 7 jm (T.1 7 jm + 1)) jm n
                  generalize hTn : drp (sI (sI T 24 0 0) 7 jm (T.1 7 jm + 1)) jm n = Tn at X s2 s1 s14
                  have s2 : Tn.2 = T.2 := s2
                  refine lv_iload hx hb dX8_edit_84 (lv_at hl 0 rfl) ?_
                  refine lv_aload_n hx hb dX8_edit_86 rfl (lv_at hl 2 rfl) ?_
                  refine k_get (index := 128) (j := 20) (ad := ad) (k := 16) (i := 0) Z X ct_16 inlX8 rfl (by decide) (inU_18 _ (List.mem_of_getElem? (i := 1) rfl)) (fun _ h => h) (v := .int (nI (Tn.2 0 3))) rfl dX8_edit_87 ?_
                  refine lv_icmp_ge (tgt := 138) hx hb dX8_edit_90 (by decide) (fun c_90 => ?_) (fun c_90 => ?_)
                  · have c_90 : (Tn.2 0 3) ≤ n := (nI_leI (a := (Tn.2 0 3)) (b := n) (by rw [s2]; omega) (by omega)).mp c_90
                    rw [s2] at c_90
                    have hn : n = T.2 0 3 := by omega
                    subst hn
                    have e7 : Tn.1 7 jm = T.1 7 jm + 1 := by rw [s1 7 jm (by decide)]; exact sI_s
                    refine lv_aload_n hx hb dX8_edit_138 rfl (lv_at hl 2 rfl) ?_
                    refine k_Rv X (k_runV (As := []) (rest := []) Z X (c_X8_settles l E G S Tn o ad (by simp only [okN, s2]; exact hT)) (k_cwV 0 Z.1.2.2.2.2 (inU_12 _ (List.mem_of_getElem? (i := 13) rfl)) (inU_12 _ (List.mem_of_getElem? (i := 14) rfl)) (inU_12 _ (List.mem_of_getElem? (i := 15) rfl)) (inU_1 _ (List.mem_of_getElem? (i := 5) rfl)) (inU_12 _ (List.mem_of_getElem? (i := 16) rfl)) rfl rfl (by decide +kernel) ⟨Nat.le_of_ble_eq_true rfl, Nat.le_of_ble_eq_true rfl⟩) (k_recv Z X ct_16 rfl) rfl hl.1 rfl (Nat.le_of_ble_eq_true rfl) dX8_edit_139 ⟨Nat.le_of_ble_eq_true rfl, Nat.le_of_ble_eq_true rfl⟩) (fun ad1 ct1 H locs hp X => ?_)
                    obtain ⟨rfl, rfl⟩ := hp
                    refine lv_aload_n hx hb dX8_edit_142 rfl (lv_at hl 2 rfl) ?_
                    refine k_get (index := 32) (j := 10) (ad := ad) (k := 16) (i := 0) Z X ct_16 inlX8 rfl (by decide) (inU_6 _ (List.mem_of_getElem? (i := 14) rfl)) (fun _ h => h) (v := .ref (ad 17 7)) rfl dX8_edit_143 ?_
                    refine lv_iload_n hx hb dX8_edit_146 rfl (lv_at hl 4 rfl) ?_
                    refine k_ild (ad := ad) (k := 17) (i := 7) Z X ct_17_7 (vp_in_nI (by first | assumption | omega) (by decide)) dX8_edit_147 ?_
                    refine lv_topi (fun x_147 e_147 => ?_)
                    obtain rfl : x_147 = (stl Tn (kdT Tn) (Tn.2 0 2)).1 7 jm := e_147.trans (by first | (simp only [nI_clamp (show jm < 2 ^ 31 by omega)]; done) | (simp only [nI_clamp (show jm < 2 ^ 31 by omega)]; rfl) | (simp only [nI_clamp (show jm < 2 ^ 31 by omega)]; simp [sI, sN]; done))
                    refine lv_topi (fun x_147 e_147 => ?_)
                    obtain rfl : x_147 = T.1 7 jm + 1 := e_147.trans (((stl_r _ _ _).2.1 7 _ (by decide) (by decide)).trans e7)
                    have hk : cEdit T (nI ju) (nI jm) = 0 := by rw [cEdit, if_neg (by rw [c_24]; decide), if_neg (by simp [q_u, hcu, q_m, hcm, c_36, c_46, c_55, c_66, c_90])]
                    exact k_iret Z X hr hlocks rfl (Nat.le_of_ble_eq_true rfl) (Nat.le_of_ble_eq_true rfl) dX8_edit_148 ⟨fun _ => by rw [hcm], rfl, (congrArg (fun z => cto G S z o ad) (show (stl Tn (kdT Tn) (Tn.2 0 2)) = oEditM (sI T 24 0 0) (nI jm) from by simp only [oEditM, oEd0, hcm]; simp only [sI_2, sI_f (show (7 : Nat) ≠ 24 by decide)]; rw [hTn, s2])).trans (by rw [if_pos hk])⟩
                  · have c_90 : ¬ (Tn.2 0 3) ≤ n := fun h => c_90 ((nI_leI (a := (Tn.2 0 3)) (b := n) (by rw [s2]; omega) (by omega)).mpr h)
                    rw [s2] at c_90
                    have h7 := hT7 n (by omega)
                    refine lv_aload_n hx hb dX8_edit_93 rfl (lv_at hl 2 rfl) ?_
                    refine k_get (index := 71) (j := 25) (ad := ad) (k := 16) (i := 0) Z X ct_16 inlX8 rfl (by decide) (inU_7 _ (List.mem_of_getElem? (i := 3) rfl)) (fun _ h => h) (v := .ref (ad 17 20)) rfl dX8_edit_94 ?_
                    refine lv_iload hx hb dX8_edit_97 (lv_at hl 0 rfl) ?_
                    refine lv_aload_n hx hb dX8_edit_99 rfl (lv_at hl 2 rfl) ?_
                    refine k_get (index := 59) (j := 21) (ad := ad) (k := 16) (i := 0) Z X ct_16 inlX8 rfl (by decide) (inU_6 _ (List.mem_of_getElem? (i := 23) rfl)) (fun _ h => h) (v := .ref (ad 17 16)) rfl dX8_edit_100 ?_
                    refine lv_iload hx hb dX8_edit_103 (lv_at hl 0 rfl) ?_
                    refine k_ild (ad := ad) (k := 17) (i := 16) Z X ct_17_16 (vp_in_nI (by first | assumption | omega) (by decide)) dX8_edit_105 ?_
                    refine lv_topi (fun x_105 e_105 => ?_)
                    obtain rfl : x_105 = nI (Tn.2 4 n) := e_105.trans (by first | (simp only [nI_clamp (show n < 2 ^ 31 by omega)]; done) | (simp only [nI_clamp (show n < 2 ^ 31 by omega)]; rfl) | (simp only [nI_clamp (show n < 2 ^ 31 by omega)]; simp [sI, sN]; done))
                    refine lv_topi (fun x_105 e_105 => ?_)
                    obtain rfl : x_105 = nI (T.2 4 n) := e_105.trans (by rw [s2])
                    refine lv_iload_n hx hb dX8_edit_106 rfl (lv_at hl 4 rfl) ?_
                    refine lv_icmp_ne (tgt := 124) hx hb dX8_edit_107 (by decide) (fun c_107 => ?_) (fun c_107 => ?_)
                    · have c_107 : ¬ (T.2 4 n) = jm := fun h => c_107 ((nI_eq (a := (T.2 4 n)) (b := jm) (by omega) (by omega)).mpr h)
                      refine lv_aload_n hx hb dX8_edit_124 rfl (lv_at hl 2 rfl) ?_
                      refine k_get (index := 71) (j := 25) (ad := ad) (k := 16) (i := 0) Z X ct_16 inlX8 rfl (by decide) (inU_7 _ (List.mem_of_getElem? (i := 3) rfl)) (fun _ h => h) (v := .ref (ad 17 20)) rfl dX8_edit_125 ?_
                      refine lv_iload hx hb dX8_edit_128 (lv_at hl 0 rfl) ?_
                      refine k_ild (ad := ad) (k := 17) (i := 20) Z X ct_17_20 (vp_in_nI (by first | assumption | omega) (by decide)) dX8_edit_130 ?_
                      refine lv_topi (fun x_130 e_130 => ?_)
                      obtain rfl : x_130 = Tn.1 14 n := e_130.trans (by first | (simp only [nI_clamp (show n < 2 ^ 31 by omega)]; done) | (simp only [nI_clamp (show n < 2 ^ 31 by omega)]; rfl) | (simp only [nI_clamp (show n < 2 ^ 31 by omega)]; simp [sI, sN]; done))
                      refine k_ist (ad := ad) (k := 17) (i := 20) Z X ct_17_20 (vp_in_nI (by first | assumption | omega) (by decide)) dX8_edit_131 (fun H locs X => ?_)
                      have X : kX E G s H locs ad (cto G S (sI Tn 14 n (Tn.1 14 n)) o ad) := X.eq (st_17_20 _ _ (by omega))
                      refine lv_iinc (v := (nI (n + 1))) (lv' := [(4, .int (nI (n + 1))), (3, .int (bI (inB (nI ju) (T.2 0 0) && inB (nI jm) (T.2 0 1)))), (0, .ref (ad 16 0)), (1, .int (nI ju)), (2, .int (nI jm))]) hx hb dX8_edit_132 hl (k := 0) rfl (nI_1 _) (by decide) rfl (fun ls hl => ?_)
                      refine lv_goto (tgt := 84) hx hb dX8_edit_135 (by decide) ?_
                      have hs : drp (sI (sI T 24 0 0) 7 jm (T.1 7 jm + 1)) jm (n + 1) = sI Tn 14 n (Tn.1 14 n) := by rw [sI_id]; simp only [drp, hTn]; refine if_neg (fun h => c_107 h.1)
                      exact ih (n + 1) (by omega) (by omega) _ _ _ (hs ▸ X) (lv_sub hl [0, 1, 2, 3, 4] rfl)
                    · have c_107 : (T.2 4 n) = jm := (nI_eq (a := (T.2 4 n)) (b := jm) (by omega) (by omega)).mp c_107
                      refine lv_aload_n hx hb dX8_edit_110 rfl (lv_at hl 2 rfl) ?_
                      refine k_get (index := 71) (j := 25) (ad := ad) (k := 16) (i := 0) Z X ct_16 inlX8 rfl (by decide) (inU_7 _ (List.mem_of_getElem? (i := 3) rfl)) (fun _ h => h) (v := .ref (ad 17 20)) rfl dX8_edit_111 ?_
                      refine lv_iload hx hb dX8_edit_114 (lv_at hl 0 rfl) ?_
                      refine k_ild (ad := ad) (k := 17) (i := 20) Z X ct_17_20 (vp_in_nI (by first | assumption | omega) (by decide)) dX8_edit_116 ?_
                      refine lv_topi (fun x_116 e_116 => ?_)
                      obtain rfl : x_116 = Tn.1 14 n := e_116.trans (by first | (simp only [nI_clamp (show n < 2 ^ 31 by omega)]; done) | (simp only [nI_clamp (show n < 2 ^ 31 by omega)]; rfl) | (simp only [nI_clamp (show n < 2 ^ 31 by omega)]; simp [sI, sN]; done))
                      refine lv_if_ne (tgt := 124) hx hb dX8_edit_117 (by decide) (fun c_117 => ?_) (fun c_117 => ?_)
                      · refine lv_aload_n hx hb dX8_edit_124 rfl (lv_at hl 2 rfl) ?_
                        refine k_get (index := 71) (j := 25) (ad := ad) (k := 16) (i := 0) Z X ct_16 inlX8 rfl (by decide) (inU_7 _ (List.mem_of_getElem? (i := 3) rfl)) (fun _ h => h) (v := .ref (ad 17 20)) rfl dX8_edit_125 ?_
                        refine lv_iload hx hb dX8_edit_128 (lv_at hl 0 rfl) ?_
                        refine k_ild (ad := ad) (k := 17) (i := 20) Z X ct_17_20 (vp_in_nI (by first | assumption | omega) (by decide)) dX8_edit_130 ?_
                        refine lv_topi (fun x_130 e_130 => ?_)
                        obtain rfl : x_130 = Tn.1 14 n := e_130.trans (by first | (simp only [nI_clamp (show n < 2 ^ 31 by omega)]; done) | (simp only [nI_clamp (show n < 2 ^ 31 by omega)]; rfl) | (simp only [nI_clamp (show n < 2 ^ 31 by omega)]; simp [sI, sN]; done))
                        refine k_ist (ad := ad) (k := 17) (i := 20) Z X ct_17_20 (vp_in_nI (by first | assumption | omega) (by decide)) dX8_edit_131 (fun H locs X => ?_)
                        have X : kX E G s H locs ad (cto G S (sI Tn 14 n (Tn.1 14 n)) o ad) := X.eq (st_17_20 _ _ (by omega))
                        refine lv_iinc (v := (nI (n + 1))) (lv' := [(4, .int (nI (n + 1))), (3, .int (bI (inB (nI ju) (T.2 0 0) && inB (nI jm) (T.2 0 1)))), (0, .ref (ad 16 0)), (1, .int (nI ju)), (2, .int (nI jm))]) hx hb dX8_edit_132 hl (k := 0) rfl (nI_1 _) (by decide) rfl (fun ls hl => ?_)
                        refine lv_goto (tgt := 84) hx hb dX8_edit_135 (by decide) ?_
                        have hs : drp (sI (sI T 24 0 0) 7 jm (T.1 7 jm + 1)) jm (n + 1) = sI Tn 14 n (Tn.1 14 n) := by rw [sI_id]; simp only [drp, hTn]; refine if_neg (fun h => c_117 ((s14 n (Nat.le_refl n)).trans h.2))
                        exact ih (n + 1) (by omega) (by omega) _ _ _ (hs ▸ X) (lv_sub hl [0, 1, 2, 3, 4] rfl)
                      · refine lv_iconst (v := 2) hx hb dX8_edit_120 (by decide) ?_
                        refine lv_goto (tgt := 131) hx hb dX8_edit_121 (by decide) ?_
                        refine k_ist (ad := ad) (k := 17) (i := 20) Z X ct_17_20 (vp_in_nI (by first | assumption | omega) (by decide)) dX8_edit_131 (fun H locs X => ?_)
                        have X : kX E G s H locs ad (cto G S (sI Tn 14 n 2) o ad) := X.eq (st_17_20 _ _ (by omega))
                        refine lv_iinc (v := (nI (n + 1))) (lv' := [(4, .int (nI (n + 1))), (3, .int (bI (inB (nI ju) (T.2 0 0) && inB (nI jm) (T.2 0 1)))), (0, .ref (ad 16 0)), (1, .int (nI ju)), (2, .int (nI jm))]) hx hb dX8_edit_132 hl (k := 0) rfl (nI_1 _) (by decide) rfl (fun ls hl => ?_)
                        refine lv_goto (tgt := 84) hx hb dX8_edit_135 (by decide) ?_
                        have hs : drp (sI (sI T 24 0 0) 7 jm (T.1 7 jm + 1)) jm (n + 1) = sI Tn 14 n 2 := by simp only [drp, hTn]; refine if_pos ?_; have e1 : T.2 4 n = jm := c_107; have e2 : Tn.1 14 n = 0 := c_117; exact ⟨e1, (s14 n (Nat.le_refl n)).symm.trans e2⟩
                        exact ih (n + 1) (by omega) (by omega) _ _ _ (hs ▸ X) (lv_sub hl [0, 1, 2, 3, 4] rfl)
              exact LOOP_84 (T.2 0 3 + 1) 0 (by omega) (by omega) _ _ _ X (lv_sub hl [0, 1, 2, 3, 4] rfl)
            · exact absurd c_66 (by decide)
          · refine lv_iconst (v := 2) hx hb dX8_edit_58 (by decide) ?_
            refine lv_goto (tgt := 63) hx hb dX8_edit_59 (by decide) ?_
            refine k_Ri X (k_runV (As := [.int 2]) (rest := []) Z X (c_X8_fails l E G S T o ad 2) (k_cwV 1 Z.1.2.2.2.2 (inU_9 _ (List.mem_of_getElem? (i := 2) rfl)) (inU_9 _ (List.mem_of_getElem? (i := 3) rfl)) (inU_9 _ (List.mem_of_getElem? (i := 4) rfl)) (inU_1 _ (List.mem_of_getElem? (i := 5) rfl)) (inU_9 _ (List.mem_of_getElem? (i := 5) rfl)) rfl rfl (by decide +kernel) ⟨Nat.le_of_ble_eq_true rfl, Nat.le_of_ble_eq_true rfl⟩) (k_recv Z X ct_16 rfl) rfl hl.1 rfl (Nat.le_of_ble_eq_true rfl) dX8_edit_63 ⟨Nat.le_of_ble_eq_true rfl, Nat.le_of_ble_eq_true rfl⟩) (fun r_63 ad1 ct1 H locs hp X => ?_)
            obtain ⟨rfl, rfl, rfl⟩ := hp
            refine lv_topi (fun x_63 e_63 => ?_)
            obtain rfl : x_63 = 1 := e_63.trans (by decide)
            refine lv_if_eq (tgt := 71) hx hb dX8_edit_66 (by decide) (fun c_66 => ?_) (fun c_66 => ?_)
            · exact absurd c_66 (by decide)
            · refine lv_iconst (v := 0) hx hb dX8_edit_69 (by decide) ?_
              have hk : cEdit T (nI ju) (nI jm) = 2 := by rw [cEdit, if_neg (by rw [c_24]; decide), if_pos (by simp [q_u, hcu, q_m, hcm, c_36, c_46, c_55, c_66])]
              exact k_iret Z X hr hlocks rfl (Nat.le_of_ble_eq_true rfl) (Nat.le_of_ble_eq_true rfl) dX8_edit_70 ⟨fun h => absurd (hk.symm.trans h) (by decide), rfl, by rw [hk, if_neg (by decide)]⟩
    · have c_24 : (inB xu (T.2 0 0) && inB xm (T.2 0 1)) = false := bI_0 c_24
      refine lv_iconst (v := 1) hx hb dX8_edit_27 (by decide) ?_
      refine lv_goto (tgt := 63) hx hb dX8_edit_28 (by decide) ?_
      refine k_Ri X (k_runV (As := [.int 1]) (rest := []) Z X (c_X8_fails l E G S T o ad 1) (k_cwV 1 Z.1.2.2.2.2 (inU_9 _ (List.mem_of_getElem? (i := 2) rfl)) (inU_9 _ (List.mem_of_getElem? (i := 3) rfl)) (inU_9 _ (List.mem_of_getElem? (i := 4) rfl)) (inU_1 _ (List.mem_of_getElem? (i := 5) rfl)) (inU_9 _ (List.mem_of_getElem? (i := 5) rfl)) rfl rfl (by decide +kernel) ⟨Nat.le_of_ble_eq_true rfl, Nat.le_of_ble_eq_true rfl⟩) (k_recv Z X ct_16 rfl) rfl hl.1 rfl (Nat.le_of_ble_eq_true rfl) dX8_edit_63 ⟨Nat.le_of_ble_eq_true rfl, Nat.le_of_ble_eq_true rfl⟩) (fun r_63 ad1 ct1 H locs hp X => ?_)
      obtain ⟨rfl, rfl, rfl⟩ := hp
      refine lv_topi (fun x_63 e_63 => ?_)
      obtain rfl : x_63 = 1 := e_63.trans (by decide)
      refine lv_if_eq (tgt := 71) hx hb dX8_edit_66 (by decide) (fun c_66 => ?_) (fun c_66 => ?_)
      · exact absurd c_66 (by decide)
      · refine lv_iconst (v := 0) hx hb dX8_edit_69 (by decide) ?_
        have hk : cEdit T xu xm = 1 := by rw [cEdit, if_pos c_24]
        exact k_iret Z X hr hlocks rfl (Nat.le_of_ble_eq_true rfl) (Nat.le_of_ble_eq_true rfl) dX8_edit_70 ⟨fun h => absurd (hk.symm.trans h) (by decide), rfl, by rw [hk, if_neg (by decide)]⟩
  refine lv_aload_n hx hb dX8_edit_0 rfl (lv_at hl 0 rfl) ?_
  refine lv_iload_n hx hb dX8_edit_1 rfl (lv_at hl 1 rfl) ?_
  refine k_Ri X (k_runV (As := [.int xu]) (rest := []) Z X (c_X8_isUser l E G S T o ad xu (by omega)) (k_cwV 1 Z.1.2.2.2.2 (inU_12 _ (List.mem_of_getElem? (i := 9) rfl)) (inU_12 _ (List.mem_of_getElem? (i := 10) rfl)) (inU_12 _ (List.mem_of_getElem? (i := 11) rfl)) (inU_1 _ (List.mem_of_getElem? (i := 5) rfl)) (inU_12 _ (List.mem_of_getElem? (i := 12) rfl)) rfl rfl (by decide +kernel) ⟨Nat.le_of_ble_eq_true rfl, Nat.le_of_ble_eq_true rfl⟩) (k_recv Z X ct_16 rfl) rfl hl.1 rfl (Nat.le_of_ble_eq_true rfl) dX8_edit_2 ⟨Nat.le_of_ble_eq_true rfl, Nat.le_of_ble_eq_true rfl⟩) (fun r_2 ad1 ct1 H locs hp X => ?_)
  obtain ⟨rfl, rfl, rfl⟩ := hp
  refine lv_if_eq (tgt := 20) hx hb dX8_edit_5 (by decide) (fun c_5 => ?_) (fun c_5 => ?_)
  · have c_5 : (inB xu (T.2 0 0)) = false := bI_0 c_5
    refine lv_iconst (v := 0) hx hb dX8_edit_20 (by decide) ?_
    exact W.eq (congrArg (fun z => F0 m 21 ls (.int z :: [])) (bI_f (by simp [c_5]))) (M_21 H locs X)
  · have c_5 : (inB xu (T.2 0 0)) = true := bI_1 c_5
    refine lv_aload_n hx hb dX8_edit_8 rfl (lv_at hl 0 rfl) ?_
    refine lv_iload_n hx hb dX8_edit_9 rfl (lv_at hl 2 rfl) ?_
    refine k_Ri X (k_runV (As := [.int xm]) (rest := []) Z X (c_X8_isMessage l E G S T o ad xm (by omega)) (k_cwV 1 Z.1.2.2.2.2 (inU_16 _ (List.mem_of_getElem? (i := 13) rfl)) (inU_16 _ (List.mem_of_getElem? (i := 14) rfl)) (inU_16 _ (List.mem_of_getElem? (i := 15) rfl)) (inU_1 _ (List.mem_of_getElem? (i := 5) rfl)) (inU_16 _ (List.mem_of_getElem? (i := 16) rfl)) rfl rfl (by decide +kernel) ⟨Nat.le_of_ble_eq_true rfl, Nat.le_of_ble_eq_true rfl⟩) (k_recv Z X ct_16 rfl) rfl hl.1 rfl (Nat.le_of_ble_eq_true rfl) dX8_edit_10 ⟨Nat.le_of_ble_eq_true rfl, Nat.le_of_ble_eq_true rfl⟩) (fun r_10 ad1 ct1 H locs hp X => ?_)
    obtain ⟨rfl, rfl, rfl⟩ := hp
    refine lv_if_eq (tgt := 20) hx hb dX8_edit_13 (by decide) (fun c_13 => ?_) (fun c_13 => ?_)
    · have c_13 : (inB xm (T.2 0 1)) = false := bI_0 c_13
      refine lv_iconst (v := 0) hx hb dX8_edit_20 (by decide) ?_
      exact W.eq (congrArg (fun z => F0 m 21 ls (.int z :: [])) (bI_f (by simp [c_5, c_13]))) (M_21 H locs X)
    · have c_13 : (inB xm (T.2 0 1)) = true := bI_1 c_13
      refine lv_iconst (v := 1) hx hb dX8_edit_16 (by decide) ?_
      refine lv_goto (tgt := 21) hx hb dX8_edit_17 (by decide) ?_
      exact W.eq (congrArg (fun z => F0 m 21 ls (.int z :: [])) (bI_t (by simp [c_5, c_13]))) (M_21 H locs X)
theorem dX8_mark_0 : decode cX8_mark 0 = .ok (.aload_n 0, 1) := by decide +kernel
theorem dX8_mark_1 : decode cX8_mark 1 = .ok (.iload_n 1, 1) := by decide +kernel
theorem dX8_mark_2 : decode cX8_mark 2 = .ok (.invokevirtual 114, 3) := by decide +kernel
theorem dX8_mark_5 : decode cX8_mark 5 = .ok (.ifCond .eq 15, 3) := by decide +kernel
theorem dX8_mark_8 : decode cX8_mark 8 = .ok (.aload_n 0, 1) := by decide +kernel
theorem dX8_mark_9 : decode cX8_mark 9 = .ok (.iload_n 2, 1) := by decide +kernel
theorem dX8_mark_10 : decode cX8_mark 10 = .ok (.invokevirtual 125, 3) := by decide +kernel
theorem dX8_mark_13 : decode cX8_mark 13 = .ok (.ifCond .eq 7, 3) := by decide +kernel
theorem dX8_mark_16 : decode cX8_mark 16 = .ok (.iconst 1, 1) := by decide +kernel
theorem dX8_mark_17 : decode cX8_mark 17 = .ok (.goto 4, 3) := by decide +kernel
theorem dX8_mark_20 : decode cX8_mark 20 = .ok (.iconst 0, 1) := by decide +kernel
theorem dX8_mark_21 : decode cX8_mark 21 = .ok (.istore 4, 2) := by decide +kernel
theorem dX8_mark_23 : decode cX8_mark 23 = .ok (.iload_n 3, 1) := by decide +kernel
theorem dX8_mark_24 : decode cX8_mark 24 = .ok (.iconst (-1), 1) := by decide +kernel
theorem dX8_mark_25 : decode cX8_mark 25 = .ok (.iconst 1, 1) := by decide +kernel
theorem dX8_mark_26 : decode cX8_mark 26 = .ok (.invokestatic 84, 3) := by decide +kernel
theorem dX8_mark_29 : decode cX8_mark 29 = .ok (.istore 5, 2) := by decide +kernel
theorem dX8_mark_31 : decode cX8_mark 31 = .ok (.iload 4, 2) := by decide +kernel
theorem dX8_mark_33 : decode cX8_mark 33 = .ok (.ifCond .eq 12, 3) := by decide +kernel
theorem dX8_mark_36 : decode cX8_mark 36 = .ok (.bipush 12, 2) := by decide +kernel
theorem dX8_mark_38 : decode cX8_mark 38 = .ok (.iload_n 2, 1) := by decide +kernel
theorem dX8_mark_39 : decode cX8_mark 39 = .ok (.imul, 1) := by decide +kernel
theorem dX8_mark_40 : decode cX8_mark 40 = .ok (.iload_n 1, 1) := by decide +kernel
theorem dX8_mark_41 : decode cX8_mark 41 = .ok (.iadd, 1) := by decide +kernel
theorem dX8_mark_42 : decode cX8_mark 42 = .ok (.goto 4, 3) := by decide +kernel
theorem dX8_mark_45 : decode cX8_mark 45 = .ok (.iconst 0, 1) := by decide +kernel
theorem dX8_mark_46 : decode cX8_mark 46 = .ok (.istore 6, 2) := by decide +kernel
theorem dX8_mark_48 : decode cX8_mark 48 = .ok (.iload 4, 2) := by decide +kernel
theorem dX8_mark_50 : decode cX8_mark 50 = .ok (.ifCond .eq 34, 3) := by decide +kernel
theorem dX8_mark_53 : decode cX8_mark 53 = .ok (.aload_n 0, 1) := by decide +kernel
theorem dX8_mark_54 : decode cX8_mark 54 = .ok (.getfield 41, 3) := by decide +kernel
theorem dX8_mark_57 : decode cX8_mark 57 = .ok (.iload 6, 2) := by decide +kernel
theorem dX8_mark_59 : decode cX8_mark 59 = .ok (.iaload, 1) := by decide +kernel
theorem dX8_mark_60 : decode cX8_mark 60 = .ok (.iconst (-1), 1) := by decide +kernel
theorem dX8_mark_61 : decode cX8_mark 61 = .ok (.if_icmp .eq 23, 3) := by decide +kernel
theorem dX8_mark_64 : decode cX8_mark 64 = .ok (.aload_n 0, 1) := by decide +kernel
theorem dX8_mark_65 : decode cX8_mark 65 = .ok (.getfield 44, 3) := by decide +kernel
theorem dX8_mark_68 : decode cX8_mark 68 = .ok (.iload 6, 2) := by decide +kernel
theorem dX8_mark_70 : decode cX8_mark 70 = .ok (.iaload, 1) := by decide +kernel
theorem dX8_mark_71 : decode cX8_mark 71 = .ok (.aload_n 0, 1) := by decide +kernel
theorem dX8_mark_72 : decode cX8_mark 72 = .ok (.getfield 32, 3) := by decide +kernel
theorem dX8_mark_75 : decode cX8_mark 75 = .ok (.iload_n 2, 1) := by decide +kernel
theorem dX8_mark_76 : decode cX8_mark 76 = .ok (.iaload, 1) := by decide +kernel
theorem dX8_mark_77 : decode cX8_mark 77 = .ok (.if_icmp .ne 7, 3) := by decide +kernel
theorem dX8_mark_80 : decode cX8_mark 80 = .ok (.iconst 1, 1) := by decide +kernel
theorem dX8_mark_81 : decode cX8_mark 81 = .ok (.goto 4, 3) := by decide +kernel
theorem dX8_mark_84 : decode cX8_mark 84 = .ok (.iconst 0, 1) := by decide +kernel
theorem dX8_mark_85 : decode cX8_mark 85 = .ok (.istore 7, 2) := by decide +kernel
theorem dX8_mark_87 : decode cX8_mark 87 = .ok (.aload_n 0, 1) := by decide +kernel
theorem dX8_mark_88 : decode cX8_mark 88 = .ok (.iload 4, 2) := by decide +kernel
theorem dX8_mark_90 : decode cX8_mark 90 = .ok (.ifCond .ne 7, 3) := by decide +kernel
theorem dX8_mark_93 : decode cX8_mark 93 = .ok (.iconst 1, 1) := by decide +kernel
theorem dX8_mark_94 : decode cX8_mark 94 = .ok (.goto 44, 3) := by decide +kernel
theorem dX8_mark_97 : decode cX8_mark 97 = .ok (.iload 5, 2) := by decide +kernel
theorem dX8_mark_99 : decode cX8_mark 99 = .ok (.ifCond .ne 7, 3) := by decide +kernel
theorem dX8_mark_102 : decode cX8_mark 102 = .ok (.iconst 2, 1) := by decide +kernel
theorem dX8_mark_103 : decode cX8_mark 103 = .ok (.goto 35, 3) := by decide +kernel
theorem dX8_mark_106 : decode cX8_mark 106 = .ok (.aload_n 0, 1) := by decide +kernel
theorem dX8_mark_107 : decode cX8_mark 107 = .ok (.iload_n 1, 1) := by decide +kernel
theorem dX8_mark_108 : decode cX8_mark 108 = .ok (.invokevirtual 94, 3) := by decide +kernel
theorem dX8_mark_111 : decode cX8_mark 111 = .ok (.ifCond .ne 22, 3) := by decide +kernel
theorem dX8_mark_114 : decode cX8_mark 114 = .ok (.aload_n 0, 1) := by decide +kernel
theorem dX8_mark_115 : decode cX8_mark 115 = .ok (.getfield 38, 3) := by decide +kernel
theorem dX8_mark_118 : decode cX8_mark 118 = .ok (.iload_n 2, 1) := by decide +kernel
theorem dX8_mark_119 : decode cX8_mark 119 = .ok (.baload, 1) := by decide +kernel
theorem dX8_mark_120 : decode cX8_mark 120 = .ok (.ifCond .ne 13, 3) := by decide +kernel
theorem dX8_mark_123 : decode cX8_mark 123 = .ok (.iload_n 3, 1) := by decide +kernel
theorem dX8_mark_124 : decode cX8_mark 124 = .ok (.iconst (-1), 1) := by decide +kernel
theorem dX8_mark_125 : decode cX8_mark 125 = .ok (.if_icmp .ne 12, 3) := by decide +kernel
theorem dX8_mark_128 : decode cX8_mark 128 = .ok (.iload 7, 2) := by decide +kernel
theorem dX8_mark_130 : decode cX8_mark 130 = .ok (.ifCond .ne 7, 3) := by decide +kernel
theorem dX8_mark_133 : decode cX8_mark 133 = .ok (.iconst 3, 1) := by decide +kernel
theorem dX8_mark_134 : decode cX8_mark 134 = .ok (.goto 4, 3) := by decide +kernel
theorem dX8_mark_137 : decode cX8_mark 137 = .ok (.iconst 0, 1) := by decide +kernel
theorem dX8_mark_138 : decode cX8_mark 138 = .ok (.invokevirtual 111, 3) := by decide +kernel
theorem dX8_mark_141 : decode cX8_mark 141 = .ok (.ifCond .eq 5, 3) := by decide +kernel
theorem dX8_mark_144 : decode cX8_mark 144 = .ok (.iconst 0, 1) := by decide +kernel
theorem dX8_mark_145 : decode cX8_mark 145 = .ok (.ireturn, 1) := by decide +kernel
theorem dX8_mark_146 : decode cX8_mark 146 = .ok (.aload_n 0, 1) := by decide +kernel
theorem dX8_mark_147 : decode cX8_mark 147 = .ok (.getfield 41, 3) := by decide +kernel
theorem dX8_mark_150 : decode cX8_mark 150 = .ok (.iload 6, 2) := by decide +kernel
theorem dX8_mark_152 : decode cX8_mark 152 = .ok (.iload_n 3, 1) := by decide +kernel
theorem dX8_mark_153 : decode cX8_mark 153 = .ok (.iastore, 1) := by decide +kernel
theorem dX8_mark_154 : decode cX8_mark 154 = .ok (.aload_n 0, 1) := by decide +kernel
theorem dX8_mark_155 : decode cX8_mark 155 = .ok (.getfield 44, 3) := by decide +kernel
theorem dX8_mark_158 : decode cX8_mark 158 = .ok (.iload 6, 2) := by decide +kernel
theorem dX8_mark_160 : decode cX8_mark 160 = .ok (.aload_n 0, 1) := by decide +kernel
theorem dX8_mark_161 : decode cX8_mark 161 = .ok (.getfield 32, 3) := by decide +kernel
theorem dX8_mark_164 : decode cX8_mark 164 = .ok (.iload_n 2, 1) := by decide +kernel
theorem dX8_mark_165 : decode cX8_mark 165 = .ok (.iaload, 1) := by decide +kernel
theorem dX8_mark_166 : decode cX8_mark 166 = .ok (.iastore, 1) := by decide +kernel
theorem dX8_mark_167 : decode cX8_mark 167 = .ok (.aload_n 0, 1) := by decide +kernel
theorem dX8_mark_168 : decode cX8_mark 168 = .ok (.invokevirtual 117, 3) := by decide +kernel
theorem dX8_mark_171 : decode cX8_mark 171 = .ok (.aload_n 0, 1) := by decide +kernel
theorem dX8_mark_172 : decode cX8_mark 172 = .ok (.iload_n 2, 1) := by decide +kernel
theorem dX8_mark_173 : decode cX8_mark 173 = .ok (.invokevirtual 131, 3) := by decide +kernel
theorem dX8_mark_176 : decode cX8_mark 176 = .ok (.ireturn, 1) := by decide +kernel
set_option maxHeartbeats 4000000 in
set_option maxRecDepth 100000 in
theorem c_X8_mark (l : Launch) (E : State) (G : kG) (S T : kSt) (o : Int64) (ad : kAd) (xu xm xk : Int32) (hT : okN T) : Met l yX8_mark (.code yX8_mark cX8_mark 8 (some .int) :: wsL_law) ({ frames := 6, cells := 0, slots := 0, locals := 130 } : Room) (va_Pc [.ref (ad 16 0), .int xu, .int xm, .int xk] (kPre E G ad (cto G S T o ad))) (kQi E G (fun r ad1 ct1 => (cMark T (kdT T) xu xm xk = 0 → r = nI (cntN (oMarkM (sI T 24 0 0) xu xm xk) (kdT (oMarkM (sI T 24 0 0) xu xm xk) (cl xm)) (T.2 0 0))) ∧ ad = ad1 ∧ ct1 = cto G S (if cMark T (kdT T) xu xm xk = 0 then oMarkM (sI T 24 0 0) xu xm xk else sI T 24 0 (cMark T (kdT T) xu xm xk)) o ad)) 0 0 (kB E.heap.size) := by
  refine Met.ofW (cc := cX8_mark) (maxL := 8) (ret := (some .int)) (by decide) rfl ?_
  intro p e s m args below meth c s₁ B hml hv
  obtain ⟨rfl, hM, hK, hW0⟩ := hv
  have hlocks := B.notSynchronized
  have hr := B.returns
  have Z : kZ p m c cX8_mark 8 s _ wsL_law RX8 E G := ⟨⟨B.exec, B.bytes, hml, findClass_of_methodNamed B.named, fun w h => atoms_spec (ws := .code yX8_mark cX8_mark 8 (some .int) :: wsL_law) B.pre w (List.mem_cons_of_mem _ h)⟩, hM, hK⟩
  have hx := Z.1.1
  have hb := Z.1.2.1
  have X := kX.of hW0
  have hl := lv_entry ([.ref (ad 16 0), .int xu, .int xm, .int xk]) (n := 8) (Nat.le_of_ble_eq_true rfl)
  rw [lg_entry_eq]
  generalize (lg_sl ([.ref (ad 16 0), .int xu, .int xm, .int xk]) ++ List.replicate (8 - (lg_sl ([.ref (ad 16 0), .int xu, .int xm, .int xk])).length) Slot.unset).toArray = ls at hl ⊢
  have hl : lv_has ls 8 [(0, .ref (ad 16 0)), (1, .int xu), (2, .int xm), (3, .int xk)] := hl
  have hT0 := hT
  obtain ⟨hT1, hT2, hT3, hT4, hT5, hT6, hT7⟩ := hT0
  have M_21 : ∀ (H : Heap) (locs : List Loc), kX E G s H locs ad (cto G S T o ad) → W p l e (headSpec (Cond.code yX8_mark cX8_mark 8 (some .int) :: wsL_law) ({ frames := 6, cells := 0, slots := 0, locals := 130 } : Room)).room s m ([.ref (ad 16 0), .int xu, .int xm, .int xk] : List Value).toArray below meth c H locs 0 0 (MQ below (kQi E G (fun r ad1 ct1 => (cMark T (kdT T) xu xm xk = 0 → r = nI (cntN (oMarkM (sI T 24 0 0) xu xm xk) (kdT (oMarkM (sI T 24 0 0) xu xm xk) (cl xm)) (T.2 0 0))) ∧ ad = ad1 ∧ ct1 = cto G S (if cMark T (kdT T) xu xm xk = 0 then oMarkM (sI T 24 0 0) xu xm xk else sI T 24 0 (cMark T (kdT T) xu xm xk)) o ad)) ([.ref (ad 16 0), .int xu, .int xm, .int xk] : List Value).toArray s 0 0 (kB E.heap.size)) (F0 m 21 ls [.int (bI (inB xu (T.2 0 0) && inB xm (T.2 0 1)))]) := by
    intro H locs X
    refine lv_istore (lv' := [(4, .int (bI (inB xu (T.2 0 0) && inB xm (T.2 0 1)))), (0, .ref (ad 16 0)), (1, .int xu), (2, .int xm), (3, .int xk)]) hx hb dX8_mark_21 hl (by decide) rfl (fun ls hl => ?_)
    refine lv_iload_n hx hb dX8_mark_23 rfl (lv_at hl 4 rfl) ?_
    refine lv_iconst (v := (-1)) hx hb dX8_mark_24 (by decide) ?_
    refine lv_iconst (v := 1) hx hb dX8_mark_25 (by decide) ?_
    refine k_Ri X (k_runS (As := [.int xk, .int (-1), .int 1]) (rest := []) Z X (c_X8_isIn l E G S T o ad xk (-1) 1) (k_cwS 3 Z.1.2.2.2.2 (inU_8 _ (List.mem_of_getElem? (i := 23) rfl)) (inU_9 _ (List.mem_of_getElem? (i := 0) rfl)) (inU_1 _ (List.mem_of_getElem? (i := 5) rfl)) (inU_9 _ (List.mem_of_getElem? (i := 1) rfl)) rfl rfl (by decide +kernel) ⟨Nat.le_of_ble_eq_true rfl, Nat.le_of_ble_eq_true rfl⟩) rfl hl.1 rfl (Nat.le_of_ble_eq_true rfl) dX8_mark_26 ⟨Nat.le_of_ble_eq_true rfl, Nat.le_of_ble_eq_true rfl⟩) (fun r_26 ad1 ct1 H locs hp X => ?_)
    obtain ⟨rfl, rfl, rfl⟩ := hp
    refine lv_istore (lv' := [(5, .int (bI (inR xk (-1) 1))), (4, .int (bI (inB xu (T.2 0 0) && inB xm (T.2 0 1)))), (0, .ref (ad 16 0)), (1, .int xu), (2, .int xm), (3, .int xk)]) hx hb dX8_mark_29 hl (by decide) rfl (fun ls hl => ?_)
    refine lv_iload hx hb dX8_mark_31 (lv_at hl 1 rfl) ?_
    refine lv_if_eq (tgt := 45) hx hb dX8_mark_33 (by decide) (fun c_33 => ?_) (fun c_33 => ?_)
    · have c_33 : (inB xu (T.2 0 0) && inB xm (T.2 0 1)) = false := bI_0 c_33
      rw [c_33] at hl
      refine lv_iconst (v := 0) hx hb dX8_mark_45 (by decide) ?_
      refine lv_istore (lv' := [(6, .int 0), (5, .int (bI (inR xk (-1) 1))), (4, .int (bI false)), (0, .ref (ad 16 0)), (1, .int xu), (2, .int xm), (3, .int xk)]) hx hb dX8_mark_46 hl (by decide) rfl (fun ls hl => ?_)
      refine lv_iload hx hb dX8_mark_48 (lv_at hl 2 rfl) ?_
      refine lv_if_eq (tgt := 84) hx hb dX8_mark_50 (by decide) (fun c_50 => ?_) (fun c_50 => ?_)
      · refine lv_iconst (v := 0) hx hb dX8_mark_84 (by decide) ?_
        refine lv_istore (lv' := [(7, .int 0), (6, .int 0), (5, .int (bI (inR xk (-1) 1))), (4, .int (bI false)), (0, .ref (ad 16 0)), (1, .int xu), (2, .int xm), (3, .int xk)]) hx hb dX8_mark_85 hl (by decide) rfl (fun ls hl => ?_)
        refine lv_aload_n hx hb dX8_mark_87 rfl (lv_at hl 4 rfl) ?_
        refine lv_iload hx hb dX8_mark_88 (lv_at hl 3 rfl) ?_
        refine lv_if_ne (tgt := 97) hx hb dX8_mark_90 (by decide) (fun c_90 => ?_) (fun c_90 => ?_)
        · exact absurd c_90 (by decide)
        · refine lv_iconst (v := 1) hx hb dX8_mark_93 (by decide) ?_
          refine lv_goto (tgt := 138) hx hb dX8_mark_94 (by decide) ?_
          refine k_Ri X (k_runV (As := [.int 1]) (rest := []) Z X (c_X8_fails l E G S T o ad 1) (k_cwV 1 Z.1.2.2.2.2 (inU_9 _ (List.mem_of_getElem? (i := 2) rfl)) (inU_9 _ (List.mem_of_getElem? (i := 3) rfl)) (inU_9 _ (List.mem_of_getElem? (i := 4) rfl)) (inU_1 _ (List.mem_of_getElem? (i := 5) rfl)) (inU_9 _ (List.mem_of_getElem? (i := 5) rfl)) rfl rfl (by decide +kernel) ⟨Nat.le_of_ble_eq_true rfl, Nat.le_of_ble_eq_true rfl⟩) (k_recv Z X ct_16 rfl) rfl hl.1 rfl (Nat.le_of_ble_eq_true rfl) dX8_mark_138 ⟨Nat.le_of_ble_eq_true rfl, Nat.le_of_ble_eq_true rfl⟩) (fun r_138 ad1 ct1 H locs hp X => ?_)
          obtain ⟨rfl, rfl, rfl⟩ := hp
          refine lv_topi (fun x_138 e_138 => ?_)
          obtain rfl : x_138 = 1 := e_138.trans (by decide)
          refine lv_if_eq (tgt := 146) hx hb dX8_mark_141 (by decide) (fun c_141 => ?_) (fun c_141 => ?_)
          · exact absurd c_141 (by decide)
          · refine lv_iconst (v := 0) hx hb dX8_mark_144 (by decide) ?_
            have hk : cMark T (kdT T) xu xm xk = 1 := by simp [cMark, Bool.and_eq_true, (show inR (-1) (-1) 1 = true from by decide), c_33, c_50, c_90, c_141]
            exact k_iret Z X hr hlocks rfl (Nat.le_of_ble_eq_true rfl) (Nat.le_of_ble_eq_true rfl) dX8_mark_145 ⟨fun h => absurd (hk.symm.trans h) (by decide), rfl, by rw [hk, if_neg (by decide)]⟩
      · exact absurd c_50 (by decide)
    · have c_33 : (inB xu (T.2 0 0) && inB xm (T.2 0 1)) = true := bI_1 c_33
      have q_33 := c_33
      simp only [Bool.and_eq_true] at q_33
      obtain ⟨q_u, q_m⟩ := q_33
      obtain ⟨ju, hju, hxu⟩ := inB_of q_u (by omega)
      subst hxu
      have hcu : cl (nI ju) = ju := nI_clamp (by omega)
      obtain ⟨jm, hjm, hxm⟩ := inB_of q_m (by omega)
      subst hxm
      have hcm : cl (nI jm) = jm := nI_clamp (by omega)
      rw [c_33] at hl
      refine lv_bipush (v := 12) hx hb dX8_mark_36 (by decide) ?_
      refine lv_iload_n hx hb dX8_mark_38 rfl (lv_at hl 4 rfl) ?_
      refine lv_imul hx hb dX8_mark_39 ?_
      refine lv_iload_n hx hb dX8_mark_40 rfl (lv_at hl 3 rfl) ?_
      refine lv_iadd hx hb dX8_mark_41 ?_
      refine lv_topi (fun x_41 e_41 => ?_)
      obtain rfl : x_41 = nI (12 * jm + ju) := e_41.trans (by rw [show (12 : Int32) = nI 12 from rfl, pk_mul, nI_add])
      refine lv_goto (tgt := 46) hx hb dX8_mark_42 (by decide) ?_
      refine lv_istore (lv' := [(6, .int (nI (12 * jm + ju))), (5, .int (bI (inR xk (-1) 1))), (4, .int (bI true)), (0, .ref (ad 16 0)), (1, .int (nI ju)), (2, .int (nI jm)), (3, .int xk)]) hx hb dX8_mark_46 hl (by decide) rfl (fun ls hl => ?_)
      refine lv_iload hx hb dX8_mark_48 (lv_at hl 2 rfl) ?_
      refine lv_if_eq (tgt := 84) hx hb dX8_mark_50 (by decide) (fun c_50 => ?_) (fun c_50 => ?_)
      · exact absurd c_50 (by decide)
      · have M_85 : ∀ (H : Heap) (locs : List Loc), kX E G s H locs ad (cto G S T o ad) → W p l e (headSpec (Cond.code yX8_mark cX8_mark 8 (some .int) :: wsL_law) ({ frames := 6, cells := 0, slots := 0, locals := 130 } : Room)).room s m ([.ref (ad 16 0), .int (nI ju), .int (nI jm), .int xk] : List Value).toArray below meth c H locs 0 0 (MQ below (kQi E G (fun r ad1 ct1 => (cMark T (kdT T) (nI ju) (nI jm) xk = 0 → r = nI (cntN (oMarkM (sI T 24 0 0) (nI ju) (nI jm) xk) (kdT (oMarkM (sI T 24 0 0) (nI ju) (nI jm) xk) (cl (nI jm))) (T.2 0 0))) ∧ ad = ad1 ∧ ct1 = cto G S (if cMark T (kdT T) (nI ju) (nI jm) xk = 0 then oMarkM (sI T 24 0 0) (nI ju) (nI jm) xk else sI T 24 0 (cMark T (kdT T) (nI ju) (nI jm) xk)) o ad)) ([.ref (ad 16 0), .int (nI ju), .int (nI jm), .int xk] : List Value).toArray s 0 0 (kB E.heap.size)) (F0 m 85 ls [.int (bI (decide (kdT T jm ju ≠ -1)))]) := by
          intro H locs X
          refine lv_istore (lv' := [(7, .int (bI (decide (kdT T jm ju ≠ -1)))), (6, .int (nI (12 * jm + ju))), (5, .int (bI (inR xk (-1) 1))), (4, .int (bI true)), (0, .ref (ad 16 0)), (1, .int (nI ju)), (2, .int (nI jm)), (3, .int xk)]) hx hb dX8_mark_85 hl (by decide) rfl (fun ls hl => ?_)
          refine lv_aload_n hx hb dX8_mark_87 rfl (lv_at hl 4 rfl) ?_
          refine lv_iload hx hb dX8_mark_88 (lv_at hl 3 rfl) ?_
          refine lv_if_ne (tgt := 97) hx hb dX8_mark_90 (by decide) (fun c_90 => ?_) (fun c_90 => ?_)
          · refine lv_iload hx hb dX8_mark_97 (lv_at hl 2 rfl) ?_
            refine lv_if_ne (tgt := 106) hx hb dX8_mark_99 (by decide) (fun c_99 => ?_) (fun c_99 => ?_)
            · have c_99 : (inR xk (-1) 1) = true := bI_1 c_99
              refine lv_aload_n hx hb dX8_mark_106 rfl (lv_at hl 4 rfl) ?_
              refine lv_iload_n hx hb dX8_mark_107 rfl (lv_at hl 5 rfl) ?_
              refine k_Ri X (k_runV (As := [.int (nI ju)]) (rest := [.ref (ad 16 0)]) Z X (c_X8_isGone l E G S T o ad ju (by omega)) (k_cwV 1 Z.1.2.2.2.2 (inU_13 _ (List.mem_of_getElem? (i := 2) rfl)) (inU_13 _ (List.mem_of_getElem? (i := 3) rfl)) (inU_13 _ (List.mem_of_getElem? (i := 4) rfl)) (inU_1 _ (List.mem_of_getElem? (i := 5) rfl)) (inU_13 _ (List.mem_of_getElem? (i := 5) rfl)) rfl rfl (by decide +kernel) ⟨Nat.le_of_ble_eq_true rfl, Nat.le_of_ble_eq_true rfl⟩) (k_recv Z X ct_16 rfl) rfl hl.1 rfl (Nat.le_of_ble_eq_true rfl) dX8_mark_108 ⟨Nat.le_of_ble_eq_true rfl, Nat.le_of_ble_eq_true rfl⟩) (fun r_108 ad1 ct1 H locs hp X => ?_)
              obtain ⟨rfl, rfl, rfl⟩ := hp
              refine lv_if_ne (tgt := 133) hx hb dX8_mark_111 (by decide) (fun c_111 => ?_) (fun c_111 => ?_)
              · have c_111 : (gone T ju) = true := bI_1 c_111
                refine lv_iconst (v := 3) hx hb dX8_mark_133 (by decide) ?_
                refine lv_goto (tgt := 138) hx hb dX8_mark_134 (by decide) ?_
                refine k_Ri X (k_runV (As := [.int 3]) (rest := []) Z X (c_X8_fails l E G S T o ad 3) (k_cwV 1 Z.1.2.2.2.2 (inU_9 _ (List.mem_of_getElem? (i := 2) rfl)) (inU_9 _ (List.mem_of_getElem? (i := 3) rfl)) (inU_9 _ (List.mem_of_getElem? (i := 4) rfl)) (inU_1 _ (List.mem_of_getElem? (i := 5) rfl)) (inU_9 _ (List.mem_of_getElem? (i := 5) rfl)) rfl rfl (by decide +kernel) ⟨Nat.le_of_ble_eq_true rfl, Nat.le_of_ble_eq_true rfl⟩) (k_recv Z X ct_16 rfl) rfl hl.1 rfl (Nat.le_of_ble_eq_true rfl) dX8_mark_138 ⟨Nat.le_of_ble_eq_true rfl, Nat.le_of_ble_eq_true rfl⟩) (fun r_138 ad1 ct1 H locs hp X => ?_)
                obtain ⟨rfl, rfl, rfl⟩ := hp
                refine lv_topi (fun x_138 e_138 => ?_)
                obtain rfl : x_138 = 1 := e_138.trans (by decide)
                refine lv_if_eq (tgt := 146) hx hb dX8_mark_141 (by decide) (fun c_141 => ?_) (fun c_141 => ?_)
                · exact absurd c_141 (by decide)
                · refine lv_iconst (v := 0) hx hb dX8_mark_144 (by decide) ?_
                  have hk : cMark T (kdT T) (nI ju) (nI jm) xk = 3 := by simp [cMark, Bool.and_eq_true, (show inR (-1) (-1) 1 = true from by decide), q_u, hcu, q_m, hcm, c_33, c_50, c_90, c_99, c_111, c_141]
                  exact k_iret Z X hr hlocks rfl (Nat.le_of_ble_eq_true rfl) (Nat.le_of_ble_eq_true rfl) dX8_mark_145 ⟨fun h => absurd (hk.symm.trans h) (by decide), rfl, by rw [hk, if_neg (by decide)]⟩
              · have c_111 : (gone T ju) = false := bI_0 c_111
                refine lv_aload_n hx hb dX8_mark_114 rfl (lv_at hl 4 rfl) ?_
                refine k_get (index := 38) (j := 12) (ad := ad) (k := 16) (i := 0) Z X ct_16 inlX8 rfl (by decide) (inU_6 _ (List.mem_of_getElem? (i := 16) rfl)) (fun _ h => h) (v := .ref (ad 17 9)) rfl dX8_mark_115 ?_
                refine lv_iload_n hx hb dX8_mark_118 rfl (lv_at hl 6 rfl) ?_
                refine k_zld (ad := ad) (k := 17) (i := 9) Z X ct_17_9 (vp_in_nI (by first | assumption | omega) (by decide)) dX8_mark_119 ?_
                refine lv_topi (fun x_119 e_119 => ?_)
                obtain rfl : x_119 = T.1 8 jm := e_119.trans (by first | (simp only [nI_clamp (show jm < 2 ^ 31 by omega)]; done) | (simp only [nI_clamp (show jm < 2 ^ 31 by omega)]; rfl) | (simp only [nI_clamp (show jm < 2 ^ 31 by omega)]; simp [sI, sN]; done))
                refine lv_if_ne (tgt := 133) hx hb dX8_mark_120 (by decide) (fun c_120 => ?_) (fun c_120 => ?_)
                · refine lv_iconst (v := 3) hx hb dX8_mark_133 (by decide) ?_
                  refine lv_goto (tgt := 138) hx hb dX8_mark_134 (by decide) ?_
                  refine k_Ri X (k_runV (As := [.int 3]) (rest := []) Z X (c_X8_fails l E G S T o ad 3) (k_cwV 1 Z.1.2.2.2.2 (inU_9 _ (List.mem_of_getElem? (i := 2) rfl)) (inU_9 _ (List.mem_of_getElem? (i := 3) rfl)) (inU_9 _ (List.mem_of_getElem? (i := 4) rfl)) (inU_1 _ (List.mem_of_getElem? (i := 5) rfl)) (inU_9 _ (List.mem_of_getElem? (i := 5) rfl)) rfl rfl (by decide +kernel) ⟨Nat.le_of_ble_eq_true rfl, Nat.le_of_ble_eq_true rfl⟩) (k_recv Z X ct_16 rfl) rfl hl.1 rfl (Nat.le_of_ble_eq_true rfl) dX8_mark_138 ⟨Nat.le_of_ble_eq_true rfl, Nat.le_of_ble_eq_true rfl⟩) (fun r_138 ad1 ct1 H locs hp X => ?_)
                  obtain ⟨rfl, rfl, rfl⟩ := hp
                  refine lv_topi (fun x_138 e_138 => ?_)
                  obtain rfl : x_138 = 1 := e_138.trans (by decide)
                  refine lv_if_eq (tgt := 146) hx hb dX8_mark_141 (by decide) (fun c_141 => ?_) (fun c_141 => ?_)
                  · exact absurd c_141 (by decide)
                  · refine lv_iconst (v := 0) hx hb dX8_mark_144 (by decide) ?_
                    have hk : cMark T (kdT T) (nI ju) (nI jm) xk = 3 := by simp [cMark, Bool.and_eq_true, (show inR (-1) (-1) 1 = true from by decide), q_u, hcu, q_m, hcm, c_33, c_50, c_90, c_99, c_111, c_120, c_141]
                    exact k_iret Z X hr hlocks rfl (Nat.le_of_ble_eq_true rfl) (Nat.le_of_ble_eq_true rfl) dX8_mark_145 ⟨fun h => absurd (hk.symm.trans h) (by decide), rfl, by rw [hk, if_neg (by decide)]⟩
                · refine lv_iload_n hx hb dX8_mark_123 rfl (lv_at hl 7 rfl) ?_
                  refine lv_iconst (v := (-1)) hx hb dX8_mark_124 (by decide) ?_
                  refine lv_icmp_ne (tgt := 137) hx hb dX8_mark_125 (by decide) (fun c_125 => ?_) (fun c_125 => ?_)
                  · refine lv_iconst (v := 0) hx hb dX8_mark_137 (by decide) ?_
                    refine k_Ri X (k_runV (As := [.int 0]) (rest := []) Z X (c_X8_fails l E G S T o ad 0) (k_cwV 1 Z.1.2.2.2.2 (inU_9 _ (List.mem_of_getElem? (i := 2) rfl)) (inU_9 _ (List.mem_of_getElem? (i := 3) rfl)) (inU_9 _ (List.mem_of_getElem? (i := 4) rfl)) (inU_1 _ (List.mem_of_getElem? (i := 5) rfl)) (inU_9 _ (List.mem_of_getElem? (i := 5) rfl)) rfl rfl (by decide +kernel) ⟨Nat.le_of_ble_eq_true rfl, Nat.le_of_ble_eq_true rfl⟩) (k_recv Z X ct_16 rfl) rfl hl.1 rfl (Nat.le_of_ble_eq_true rfl) dX8_mark_138 ⟨Nat.le_of_ble_eq_true rfl, Nat.le_of_ble_eq_true rfl⟩) (fun r_138 ad1 ct1 H locs hp X => ?_)
                    obtain ⟨rfl, rfl, rfl⟩ := hp
                    refine lv_topi (fun x_138 e_138 => ?_)
                    obtain rfl : x_138 = 0 := e_138.trans (by decide)
                    refine lv_if_eq (tgt := 146) hx hb dX8_mark_141 (by decide) (fun c_141 => ?_) (fun c_141 => ?_)
                    · refine lv_aload_n hx hb dX8_mark_146 rfl (lv_at hl 4 rfl) ?_
                      refine k_get (index := 41) (j := 13) (ad := ad) (k := 16) (i := 0) Z X ct_16 inlX8 rfl (by decide) (inU_6 _ (List.mem_of_getElem? (i := 17) rfl)) (fun _ h => h) (v := .ref (ad 17 10)) rfl dX8_mark_147 ?_
                      refine lv_iload hx hb dX8_mark_150 (lv_at hl 1 rfl) ?_
                      refine lv_iload_n hx hb dX8_mark_152 rfl (lv_at hl 7 rfl) ?_
                      refine k_ist (ad := ad) (k := 17) (i := 10) Z X ct_17_10 (vp_in_nI (by first | assumption | omega) (by decide)) dX8_mark_153 (fun H locs X => ?_)
                      have X : kX E G s H locs ad (cto G S (sI (sI T 24 0 0) 21 (12 * jm + ju) xk) o ad) := X.eq (st_17_10 _ _ (by omega))
                      refine lv_aload_n hx hb dX8_mark_154 rfl (lv_at hl 4 rfl) ?_
                      refine k_get (index := 44) (j := 14) (ad := ad) (k := 16) (i := 0) Z X ct_16 inlX8 rfl (by decide) (inU_6 _ (List.mem_of_getElem? (i := 18) rfl)) (fun _ h => h) (v := .ref (ad 17 11)) rfl dX8_mark_155 ?_
                      refine lv_iload hx hb dX8_mark_158 (lv_at hl 1 rfl) ?_
                      refine lv_aload_n hx hb dX8_mark_160 rfl (lv_at hl 4 rfl) ?_
                      refine k_get (index := 32) (j := 10) (ad := ad) (k := 16) (i := 0) Z X ct_16 inlX8 rfl (by decide) (inU_6 _ (List.mem_of_getElem? (i := 14) rfl)) (fun _ h => h) (v := .ref (ad 17 7)) rfl dX8_mark_161 ?_
                      refine lv_iload_n hx hb dX8_mark_164 rfl (lv_at hl 6 rfl) ?_
                      refine k_ild (ad := ad) (k := 17) (i := 7) Z X ct_17_7 (vp_in_nI (by first | assumption | omega) (by decide)) dX8_mark_165 ?_
                      refine lv_topi (fun x_165 e_165 => ?_)
                      obtain rfl : x_165 = T.1 7 jm := e_165.trans (by first | (simp only [nI_clamp (show jm < 2 ^ 31 by omega)]; done) | (simp only [nI_clamp (show jm < 2 ^ 31 by omega)]; rfl) | (simp only [nI_clamp (show jm < 2 ^ 31 by omega)]; simp [sI, sN]; done))
                      refine k_ist (ad := ad) (k := 17) (i := 11) Z X ct_17_11 (vp_in_nI (by first | assumption | omega) (by decide)) dX8_mark_166 (fun H locs X => ?_)
                      have X : kX E G s H locs ad (cto G S (sI (sI (sI T 24 0 0) 21 (12 * jm + ju) xk) 22 (12 * jm + ju) (T.1 7 jm)) o ad) := X.eq (st_17_11 _ _ (by omega))
                      refine lv_aload_n hx hb dX8_mark_167 rfl (lv_at hl 4 rfl) ?_
                      refine k_Rv X (k_runV (As := []) (rest := []) Z X (c_X8_settles l E G S (sI (sI (sI T 24 0 0) 21 (12 * jm + ju) xk) 22 (12 * jm + ju) (T.1 7 jm)) o ad hT) (k_cwV 0 Z.1.2.2.2.2 (inU_12 _ (List.mem_of_getElem? (i := 13) rfl)) (inU_12 _ (List.mem_of_getElem? (i := 14) rfl)) (inU_12 _ (List.mem_of_getElem? (i := 15) rfl)) (inU_1 _ (List.mem_of_getElem? (i := 5) rfl)) (inU_12 _ (List.mem_of_getElem? (i := 16) rfl)) rfl rfl (by decide +kernel) ⟨Nat.le_of_ble_eq_true rfl, Nat.le_of_ble_eq_true rfl⟩) (k_recv Z X ct_16 rfl) rfl hl.1 rfl (Nat.le_of_ble_eq_true rfl) dX8_mark_168 ⟨Nat.le_of_ble_eq_true rfl, Nat.le_of_ble_eq_true rfl⟩) (fun ad1 ct1 H locs hp X => ?_)
                      obtain ⟨rfl, rfl⟩ := hp
                      refine lv_aload_n hx hb dX8_mark_171 rfl (lv_at hl 4 rfl) ?_
                      refine lv_iload_n hx hb dX8_mark_172 rfl (lv_at hl 6 rfl) ?_
                      refine k_Ri X (k_runV (As := [.int (nI jm)]) (rest := []) Z X (c_X8_counted l E G S (stl (sI (sI (sI T 24 0 0) 21 (12 * jm + ju) xk) 22 (12 * jm + ju) (T.1 7 jm)) (kdT (sI (sI (sI T 24 0 0) 21 (12 * jm + ju) xk) 22 (12 * jm + ju) (T.1 7 jm))) (T.2 0 2)) o ad jm (by omega) (by rw [(stl_r _ _ _).1]; exact hT1)) (k_cwV 1 Z.1.2.2.2.2 (inU_19 _ (List.mem_of_getElem? (i := 1) rfl)) (inU_19 _ (List.mem_of_getElem? (i := 2) rfl)) (inU_19 _ (List.mem_of_getElem? (i := 3) rfl)) (inU_1 _ (List.mem_of_getElem? (i := 5) rfl)) (inU_19 _ (List.mem_of_getElem? (i := 4) rfl)) rfl rfl (by decide +kernel) ⟨Nat.le_of_ble_eq_true rfl, Nat.le_of_ble_eq_true rfl⟩) (k_recv Z X ct_16 rfl) rfl hl.1 rfl (Nat.le_of_ble_eq_true rfl) dX8_mark_173 ⟨Nat.le_of_ble_eq_true rfl, Nat.le_of_ble_eq_true rfl⟩) (fun r_173 ad1 ct1 H locs hp X => ?_)
                      obtain ⟨rfl, rfl, rfl⟩ := hp
                      have hk : cMark T (kdT T) (nI ju) (nI jm) xk = 0 := by simp [cMark, Bool.and_eq_true, (show inR (-1) (-1) 1 = true from by decide), q_u, hcu, q_m, hcm, c_33, c_50, c_90, c_99, c_111, c_120, c_125, c_141]
                      exact k_iret Z X hr hlocks rfl (Nat.le_of_ble_eq_true rfl) (Nat.le_of_ble_eq_true rfl) dX8_mark_176 ⟨fun _ => by simp only [oMarkM, oMk0, hcm, hcu]; rw [(stl_r _ _ _).1]; rfl, rfl, (congrArg (fun z => cto G S z o ad) (show (stl (sI (sI (sI T 24 0 0) 21 (12 * jm + ju) xk) 22 (12 * jm + ju) (T.1 7 jm)) (kdT (sI (sI (sI T 24 0 0) 21 (12 * jm + ju) xk) 22 (12 * jm + ju) (T.1 7 jm))) (T.2 0 2)) = oMarkM (sI T 24 0 0) (nI ju) (nI jm) xk from by simp only [oMarkM, oMk0, hcm, hcu]; rfl)).trans (by rw [if_pos hk])⟩
                    · exact absurd c_141 (by decide)
                  · refine lv_iload hx hb dX8_mark_128 (lv_at hl 0 rfl) ?_
                    refine lv_if_ne (tgt := 137) hx hb dX8_mark_130 (by decide) (fun c_130 => ?_) (fun c_130 => ?_)
                    · have c_130 : (decide (kdT T jm ju ≠ -1)) = true := bI_1 c_130
                      refine lv_iconst (v := 0) hx hb dX8_mark_137 (by decide) ?_
                      refine k_Ri X (k_runV (As := [.int 0]) (rest := []) Z X (c_X8_fails l E G S T o ad 0) (k_cwV 1 Z.1.2.2.2.2 (inU_9 _ (List.mem_of_getElem? (i := 2) rfl)) (inU_9 _ (List.mem_of_getElem? (i := 3) rfl)) (inU_9 _ (List.mem_of_getElem? (i := 4) rfl)) (inU_1 _ (List.mem_of_getElem? (i := 5) rfl)) (inU_9 _ (List.mem_of_getElem? (i := 5) rfl)) rfl rfl (by decide +kernel) ⟨Nat.le_of_ble_eq_true rfl, Nat.le_of_ble_eq_true rfl⟩) (k_recv Z X ct_16 rfl) rfl hl.1 rfl (Nat.le_of_ble_eq_true rfl) dX8_mark_138 ⟨Nat.le_of_ble_eq_true rfl, Nat.le_of_ble_eq_true rfl⟩) (fun r_138 ad1 ct1 H locs hp X => ?_)
                      obtain ⟨rfl, rfl, rfl⟩ := hp
                      refine lv_topi (fun x_138 e_138 => ?_)
                      obtain rfl : x_138 = 0 := e_138.trans (by decide)
                      refine lv_if_eq (tgt := 146) hx hb dX8_mark_141 (by decide) (fun c_141 => ?_) (fun c_141 => ?_)
                      · refine lv_aload_n hx hb dX8_mark_146 rfl (lv_at hl 4 rfl) ?_
                        refine k_get (index := 41) (j := 13) (ad := ad) (k := 16) (i := 0) Z X ct_16 inlX8 rfl (by decide) (inU_6 _ (List.mem_of_getElem? (i := 17) rfl)) (fun _ h => h) (v := .ref (ad 17 10)) rfl dX8_mark_147 ?_
                        refine lv_iload hx hb dX8_mark_150 (lv_at hl 1 rfl) ?_
                        refine lv_iload_n hx hb dX8_mark_152 rfl (lv_at hl 7 rfl) ?_
                        refine k_ist (ad := ad) (k := 17) (i := 10) Z X ct_17_10 (vp_in_nI (by first | assumption | omega) (by decide)) dX8_mark_153 (fun H locs X => ?_)
                        have X : kX E G s H locs ad (cto G S (sI (sI T 24 0 0) 21 (12 * jm + ju) xk) o ad) := X.eq (st_17_10 _ _ (by omega))
                        refine lv_aload_n hx hb dX8_mark_154 rfl (lv_at hl 4 rfl) ?_
                        refine k_get (index := 44) (j := 14) (ad := ad) (k := 16) (i := 0) Z X ct_16 inlX8 rfl (by decide) (inU_6 _ (List.mem_of_getElem? (i := 18) rfl)) (fun _ h => h) (v := .ref (ad 17 11)) rfl dX8_mark_155 ?_
                        refine lv_iload hx hb dX8_mark_158 (lv_at hl 1 rfl) ?_
                        refine lv_aload_n hx hb dX8_mark_160 rfl (lv_at hl 4 rfl) ?_
                        refine k_get (index := 32) (j := 10) (ad := ad) (k := 16) (i := 0) Z X ct_16 inlX8 rfl (by decide) (inU_6 _ (List.mem_of_getElem? (i := 14) rfl)) (fun _ h => h) (v := .ref (ad 17 7)) rfl dX8_mark_161 ?_
                        refine lv_iload_n hx hb dX8_mark_164 rfl (lv_at hl 6 rfl) ?_
                        refine k_ild (ad := ad) (k := 17) (i := 7) Z X ct_17_7 (vp_in_nI (by first | assumption | omega) (by decide)) dX8_mark_165 ?_
                        refine lv_topi (fun x_165 e_165 => ?_)
                        obtain rfl : x_165 = T.1 7 jm := e_165.trans (by first | (simp only [nI_clamp (show jm < 2 ^ 31 by omega)]; done) | (simp only [nI_clamp (show jm < 2 ^ 31 by omega)]; rfl) | (simp only [nI_clamp (show jm < 2 ^ 31 by omega)]; simp [sI, sN]; done))
                        refine k_ist (ad := ad) (k := 17) (i := 11) Z X ct_17_11 (vp_in_nI (by first | assumption | omega) (by decide)) dX8_mark_166 (fun H locs X => ?_)
                        have X : kX E G s H locs ad (cto G S (sI (sI (sI T 24 0 0) 21 (12 * jm + ju) xk) 22 (12 * jm + ju) (T.1 7 jm)) o ad) := X.eq (st_17_11 _ _ (by omega))
                        refine lv_aload_n hx hb dX8_mark_167 rfl (lv_at hl 4 rfl) ?_
                        refine k_Rv X (k_runV (As := []) (rest := []) Z X (c_X8_settles l E G S (sI (sI (sI T 24 0 0) 21 (12 * jm + ju) xk) 22 (12 * jm + ju) (T.1 7 jm)) o ad hT) (k_cwV 0 Z.1.2.2.2.2 (inU_12 _ (List.mem_of_getElem? (i := 13) rfl)) (inU_12 _ (List.mem_of_getElem? (i := 14) rfl)) (inU_12 _ (List.mem_of_getElem? (i := 15) rfl)) (inU_1 _ (List.mem_of_getElem? (i := 5) rfl)) (inU_12 _ (List.mem_of_getElem? (i := 16) rfl)) rfl rfl (by decide +kernel) ⟨Nat.le_of_ble_eq_true rfl, Nat.le_of_ble_eq_true rfl⟩) (k_recv Z X ct_16 rfl) rfl hl.1 rfl (Nat.le_of_ble_eq_true rfl) dX8_mark_168 ⟨Nat.le_of_ble_eq_true rfl, Nat.le_of_ble_eq_true rfl⟩) (fun ad1 ct1 H locs hp X => ?_)
                        obtain ⟨rfl, rfl⟩ := hp
                        refine lv_aload_n hx hb dX8_mark_171 rfl (lv_at hl 4 rfl) ?_
                        refine lv_iload_n hx hb dX8_mark_172 rfl (lv_at hl 6 rfl) ?_
                        refine k_Ri X (k_runV (As := [.int (nI jm)]) (rest := []) Z X (c_X8_counted l E G S (stl (sI (sI (sI T 24 0 0) 21 (12 * jm + ju) xk) 22 (12 * jm + ju) (T.1 7 jm)) (kdT (sI (sI (sI T 24 0 0) 21 (12 * jm + ju) xk) 22 (12 * jm + ju) (T.1 7 jm))) (T.2 0 2)) o ad jm (by omega) (by rw [(stl_r _ _ _).1]; exact hT1)) (k_cwV 1 Z.1.2.2.2.2 (inU_19 _ (List.mem_of_getElem? (i := 1) rfl)) (inU_19 _ (List.mem_of_getElem? (i := 2) rfl)) (inU_19 _ (List.mem_of_getElem? (i := 3) rfl)) (inU_1 _ (List.mem_of_getElem? (i := 5) rfl)) (inU_19 _ (List.mem_of_getElem? (i := 4) rfl)) rfl rfl (by decide +kernel) ⟨Nat.le_of_ble_eq_true rfl, Nat.le_of_ble_eq_true rfl⟩) (k_recv Z X ct_16 rfl) rfl hl.1 rfl (Nat.le_of_ble_eq_true rfl) dX8_mark_173 ⟨Nat.le_of_ble_eq_true rfl, Nat.le_of_ble_eq_true rfl⟩) (fun r_173 ad1 ct1 H locs hp X => ?_)
                        obtain ⟨rfl, rfl, rfl⟩ := hp
                        have hk : cMark T (kdT T) (nI ju) (nI jm) xk = 0 := by simp [cMark, Bool.and_eq_true, (show inR (-1) (-1) 1 = true from by decide), q_u, hcu, q_m, hcm, c_33, c_50, c_90, c_99, c_111, c_120, c_125, c_130, c_141]
                        exact k_iret Z X hr hlocks rfl (Nat.le_of_ble_eq_true rfl) (Nat.le_of_ble_eq_true rfl) dX8_mark_176 ⟨fun _ => by simp only [oMarkM, oMk0, hcm, hcu]; rw [(stl_r _ _ _).1]; rfl, rfl, (congrArg (fun z => cto G S z o ad) (show (stl (sI (sI (sI T 24 0 0) 21 (12 * jm + ju) xk) 22 (12 * jm + ju) (T.1 7 jm)) (kdT (sI (sI (sI T 24 0 0) 21 (12 * jm + ju) xk) 22 (12 * jm + ju) (T.1 7 jm))) (T.2 0 2)) = oMarkM (sI T 24 0 0) (nI ju) (nI jm) xk from by simp only [oMarkM, oMk0, hcm, hcu]; rfl)).trans (by rw [if_pos hk])⟩
                      · exact absurd c_141 (by decide)
                    · have c_130 : (decide (kdT T jm ju ≠ -1)) = false := bI_0 c_130
                      refine lv_iconst (v := 3) hx hb dX8_mark_133 (by decide) ?_
                      refine lv_goto (tgt := 138) hx hb dX8_mark_134 (by decide) ?_
                      refine k_Ri X (k_runV (As := [.int 3]) (rest := []) Z X (c_X8_fails l E G S T o ad 3) (k_cwV 1 Z.1.2.2.2.2 (inU_9 _ (List.mem_of_getElem? (i := 2) rfl)) (inU_9 _ (List.mem_of_getElem? (i := 3) rfl)) (inU_9 _ (List.mem_of_getElem? (i := 4) rfl)) (inU_1 _ (List.mem_of_getElem? (i := 5) rfl)) (inU_9 _ (List.mem_of_getElem? (i := 5) rfl)) rfl rfl (by decide +kernel) ⟨Nat.le_of_ble_eq_true rfl, Nat.le_of_ble_eq_true rfl⟩) (k_recv Z X ct_16 rfl) rfl hl.1 rfl (Nat.le_of_ble_eq_true rfl) dX8_mark_138 ⟨Nat.le_of_ble_eq_true rfl, Nat.le_of_ble_eq_true rfl⟩) (fun r_138 ad1 ct1 H locs hp X => ?_)
                      obtain ⟨rfl, rfl, rfl⟩ := hp
                      refine lv_topi (fun x_138 e_138 => ?_)
                      obtain rfl : x_138 = 1 := e_138.trans (by decide)
                      refine lv_if_eq (tgt := 146) hx hb dX8_mark_141 (by decide) (fun c_141 => ?_) (fun c_141 => ?_)
                      · exact absurd c_141 (by decide)
                      · refine lv_iconst (v := 0) hx hb dX8_mark_144 (by decide) ?_
                        have hk : cMark T (kdT T) (nI ju) (nI jm) xk = 3 := by simp [cMark, Bool.and_eq_true, (show inR (-1) (-1) 1 = true from by decide), q_u, hcu, q_m, hcm, c_33, c_50, c_90, c_99, c_111, c_120, c_125, c_130, c_141]
                        exact k_iret Z X hr hlocks rfl (Nat.le_of_ble_eq_true rfl) (Nat.le_of_ble_eq_true rfl) dX8_mark_145 ⟨fun h => absurd (hk.symm.trans h) (by decide), rfl, by rw [hk, if_neg (by decide)]⟩
            · have c_99 : (inR xk (-1) 1) = false := bI_0 c_99
              refine lv_iconst (v := 2) hx hb dX8_mark_102 (by decide) ?_
              refine lv_goto (tgt := 138) hx hb dX8_mark_103 (by decide) ?_
              refine k_Ri X (k_runV (As := [.int 2]) (rest := []) Z X (c_X8_fails l E G S T o ad 2) (k_cwV 1 Z.1.2.2.2.2 (inU_9 _ (List.mem_of_getElem? (i := 2) rfl)) (inU_9 _ (List.mem_of_getElem? (i := 3) rfl)) (inU_9 _ (List.mem_of_getElem? (i := 4) rfl)) (inU_1 _ (List.mem_of_getElem? (i := 5) rfl)) (inU_9 _ (List.mem_of_getElem? (i := 5) rfl)) rfl rfl (by decide +kernel) ⟨Nat.le_of_ble_eq_true rfl, Nat.le_of_ble_eq_true rfl⟩) (k_recv Z X ct_16 rfl) rfl hl.1 rfl (Nat.le_of_ble_eq_true rfl) dX8_mark_138 ⟨Nat.le_of_ble_eq_true rfl, Nat.le_of_ble_eq_true rfl⟩) (fun r_138 ad1 ct1 H locs hp X => ?_)
              obtain ⟨rfl, rfl, rfl⟩ := hp
              refine lv_topi (fun x_138 e_138 => ?_)
              obtain rfl : x_138 = 1 := e_138.trans (by decide)
              refine lv_if_eq (tgt := 146) hx hb dX8_mark_141 (by decide) (fun c_141 => ?_) (fun c_141 => ?_)
              · exact absurd c_141 (by decide)
              · refine lv_iconst (v := 0) hx hb dX8_mark_144 (by decide) ?_
                have hk : cMark T (kdT T) (nI ju) (nI jm) xk = 2 := by simp [cMark, Bool.and_eq_true, (show inR (-1) (-1) 1 = true from by decide), q_u, hcu, q_m, hcm, c_33, c_50, c_90, c_99, c_141]
                exact k_iret Z X hr hlocks rfl (Nat.le_of_ble_eq_true rfl) (Nat.le_of_ble_eq_true rfl) dX8_mark_145 ⟨fun h => absurd (hk.symm.trans h) (by decide), rfl, by rw [hk, if_neg (by decide)]⟩
          · exact absurd c_90 (by decide)
        refine lv_aload_n hx hb dX8_mark_53 rfl (lv_at hl 3 rfl) ?_
        refine k_get (index := 41) (j := 13) (ad := ad) (k := 16) (i := 0) Z X ct_16 inlX8 rfl (by decide) (inU_6 _ (List.mem_of_getElem? (i := 17) rfl)) (fun _ h => h) (v := .ref (ad 17 10)) rfl dX8_mark_54 ?_
        refine lv_iload hx hb dX8_mark_57 (lv_at hl 0 rfl) ?_
        refine k_ild (ad := ad) (k := 17) (i := 10) Z X ct_17_10 (vp_in_nI (by first | assumption | omega) (by decide)) dX8_mark_59 ?_
        refine lv_topi (fun x_59 e_59 => ?_)
        obtain rfl : x_59 = T.1 21 (12 * jm + ju) := e_59.trans (by first | (simp only [nI_clamp (show 12 * jm + ju < 2 ^ 31 by omega)]; done) | (simp only [nI_clamp (show 12 * jm + ju < 2 ^ 31 by omega)]; rfl) | (simp only [nI_clamp (show 12 * jm + ju < 2 ^ 31 by omega)]; simp [sI, sN]; done))
        refine lv_iconst (v := (-1)) hx hb dX8_mark_60 (by decide) ?_
        refine lv_icmp_eq (tgt := 84) hx hb dX8_mark_61 (by decide) (fun c_61 => ?_) (fun c_61 => ?_)
        · refine lv_iconst (v := 0) hx hb dX8_mark_84 (by decide) ?_
          exact W.eq (congrArg (fun z => F0 m 85 ls (.int z :: [])) (bI_f (by simp [kdT, c_61]))) (M_85 H locs X)
        · refine lv_aload_n hx hb dX8_mark_64 rfl (lv_at hl 3 rfl) ?_
          refine k_get (index := 44) (j := 14) (ad := ad) (k := 16) (i := 0) Z X ct_16 inlX8 rfl (by decide) (inU_6 _ (List.mem_of_getElem? (i := 18) rfl)) (fun _ h => h) (v := .ref (ad 17 11)) rfl dX8_mark_65 ?_
          refine lv_iload hx hb dX8_mark_68 (lv_at hl 0 rfl) ?_
          refine k_ild (ad := ad) (k := 17) (i := 11) Z X ct_17_11 (vp_in_nI (by first | assumption | omega) (by decide)) dX8_mark_70 ?_
          refine lv_topi (fun x_70 e_70 => ?_)
          obtain rfl : x_70 = T.1 22 (12 * jm + ju) := e_70.trans (by first | (simp only [nI_clamp (show 12 * jm + ju < 2 ^ 31 by omega)]; done) | (simp only [nI_clamp (show 12 * jm + ju < 2 ^ 31 by omega)]; rfl) | (simp only [nI_clamp (show 12 * jm + ju < 2 ^ 31 by omega)]; simp [sI, sN]; done))
          refine lv_aload_n hx hb dX8_mark_71 rfl (lv_at hl 3 rfl) ?_
          refine k_get (index := 32) (j := 10) (ad := ad) (k := 16) (i := 0) Z X ct_16 inlX8 rfl (by decide) (inU_6 _ (List.mem_of_getElem? (i := 14) rfl)) (fun _ h => h) (v := .ref (ad 17 7)) rfl dX8_mark_72 ?_
          refine lv_iload_n hx hb dX8_mark_75 rfl (lv_at hl 5 rfl) ?_
          refine k_ild (ad := ad) (k := 17) (i := 7) Z X ct_17_7 (vp_in_nI (by first | assumption | omega) (by decide)) dX8_mark_76 ?_
          refine lv_topi (fun x_76 e_76 => ?_)
          obtain rfl : x_76 = T.1 7 jm := e_76.trans (by first | (simp only [nI_clamp (show jm < 2 ^ 31 by omega)]; done) | (simp only [nI_clamp (show jm < 2 ^ 31 by omega)]; rfl) | (simp only [nI_clamp (show jm < 2 ^ 31 by omega)]; simp [sI, sN]; done))
          refine lv_icmp_ne (tgt := 84) hx hb dX8_mark_77 (by decide) (fun c_77 => ?_) (fun c_77 => ?_)
          · refine lv_iconst (v := 0) hx hb dX8_mark_84 (by decide) ?_
            exact W.eq (congrArg (fun z => F0 m 85 ls (.int z :: [])) (bI_f (by simp [kdT, c_61, c_77]))) (M_85 H locs X)
          · refine lv_iconst (v := 1) hx hb dX8_mark_80 (by decide) ?_
            refine lv_goto (tgt := 85) hx hb dX8_mark_81 (by decide) ?_
            exact W.eq (congrArg (fun z => F0 m 85 ls (.int z :: [])) (bI_t (by simp [kdT, c_61, c_77]))) (M_85 H locs X)
  refine lv_aload_n hx hb dX8_mark_0 rfl (lv_at hl 0 rfl) ?_
  refine lv_iload_n hx hb dX8_mark_1 rfl (lv_at hl 1 rfl) ?_
  refine k_Ri X (k_runV (As := [.int xu]) (rest := []) Z X (c_X8_isUser l E G S T o ad xu (by omega)) (k_cwV 1 Z.1.2.2.2.2 (inU_12 _ (List.mem_of_getElem? (i := 9) rfl)) (inU_12 _ (List.mem_of_getElem? (i := 10) rfl)) (inU_12 _ (List.mem_of_getElem? (i := 11) rfl)) (inU_1 _ (List.mem_of_getElem? (i := 5) rfl)) (inU_12 _ (List.mem_of_getElem? (i := 12) rfl)) rfl rfl (by decide +kernel) ⟨Nat.le_of_ble_eq_true rfl, Nat.le_of_ble_eq_true rfl⟩) (k_recv Z X ct_16 rfl) rfl hl.1 rfl (Nat.le_of_ble_eq_true rfl) dX8_mark_2 ⟨Nat.le_of_ble_eq_true rfl, Nat.le_of_ble_eq_true rfl⟩) (fun r_2 ad1 ct1 H locs hp X => ?_)
  obtain ⟨rfl, rfl, rfl⟩ := hp
  refine lv_if_eq (tgt := 20) hx hb dX8_mark_5 (by decide) (fun c_5 => ?_) (fun c_5 => ?_)
  · have c_5 : (inB xu (T.2 0 0)) = false := bI_0 c_5
    refine lv_iconst (v := 0) hx hb dX8_mark_20 (by decide) ?_
    exact W.eq (congrArg (fun z => F0 m 21 ls (.int z :: [])) (bI_f (by simp [c_5]))) (M_21 H locs X)
  · have c_5 : (inB xu (T.2 0 0)) = true := bI_1 c_5
    refine lv_aload_n hx hb dX8_mark_8 rfl (lv_at hl 0 rfl) ?_
    refine lv_iload_n hx hb dX8_mark_9 rfl (lv_at hl 2 rfl) ?_
    refine k_Ri X (k_runV (As := [.int xm]) (rest := []) Z X (c_X8_isMessage l E G S T o ad xm (by omega)) (k_cwV 1 Z.1.2.2.2.2 (inU_16 _ (List.mem_of_getElem? (i := 13) rfl)) (inU_16 _ (List.mem_of_getElem? (i := 14) rfl)) (inU_16 _ (List.mem_of_getElem? (i := 15) rfl)) (inU_1 _ (List.mem_of_getElem? (i := 5) rfl)) (inU_16 _ (List.mem_of_getElem? (i := 16) rfl)) rfl rfl (by decide +kernel) ⟨Nat.le_of_ble_eq_true rfl, Nat.le_of_ble_eq_true rfl⟩) (k_recv Z X ct_16 rfl) rfl hl.1 rfl (Nat.le_of_ble_eq_true rfl) dX8_mark_10 ⟨Nat.le_of_ble_eq_true rfl, Nat.le_of_ble_eq_true rfl⟩) (fun r_10 ad1 ct1 H locs hp X => ?_)
    obtain ⟨rfl, rfl, rfl⟩ := hp
    refine lv_if_eq (tgt := 20) hx hb dX8_mark_13 (by decide) (fun c_13 => ?_) (fun c_13 => ?_)
    · have c_13 : (inB xm (T.2 0 1)) = false := bI_0 c_13
      refine lv_iconst (v := 0) hx hb dX8_mark_20 (by decide) ?_
      exact W.eq (congrArg (fun z => F0 m 21 ls (.int z :: [])) (bI_f (by simp [c_5, c_13]))) (M_21 H locs X)
    · have c_13 : (inB xm (T.2 0 1)) = true := bI_1 c_13
      refine lv_iconst (v := 1) hx hb dX8_mark_16 (by decide) ?_
      refine lv_goto (tgt := 21) hx hb dX8_mark_17 (by decide) ?_
      exact W.eq (congrArg (fun z => F0 m 21 ls (.int z :: [])) (bI_t (by simp [c_5, c_13]))) (M_21 H locs X)
