/-! THE LAW'S archived -/
theorem sub720 {a b : Nat} (ha : a < 2 ^ 30) (hb : b < 2 ^ 30) : nI a - nI b < 720 ↔ a < b + 720 := by
  rw [Int32.lt_iff_toInt_lt, pk_sub_toInt ha hb, show (720 : Int32).toInt = 720 from rfl]
  omega
def cA (S : kSt) (c q : Nat) : Bool := decide (S.1 8 q = 0) && (decide (S.2 2 q = c) && decide (¬ S.1 0 0 - S.1 6 q < 720))
def spJ (S : kSt) (q j : Nat) : Bool := decide (S.2 0 2 ≤ j) || (decide (S.2 3 j ≠ q) || decide (S.1 12 j ≠ 0))
def tkJ (S : kSt) (q j : Nat) : Bool := decide (S.2 0 3 ≤ j) || (decide (S.2 4 j ≠ q) || decide (S.1 14 j ≠ 0))
def rpJ (S : kSt) (q j : Nat) : Bool := decide (S.2 0 1 ≤ j) || (decide (S.1 5 j ≠ nI q) || decide (S.1 8 j ≠ 0))
def canJ (S : kSt) (c q j : Nat) : Bool := cA S c q && (noSp S q (min j (S.2 0 2)) && (noTk S q (min j (S.2 0 3)) && noRp S q (min j (S.2 0 1))))
theorem noSp_j (S : kSt) (q j : Nat) : noSp S q (min (j + 1) (S.2 0 2)) = (noSp S q (min j (S.2 0 2)) && spJ S q j) := by
  by_cases h : S.2 0 2 ≤ j
  · rw [Nat.min_eq_right (by omega), Nat.min_eq_right h, spJ, decide_eq_true h, Bool.true_or, Bool.and_true]
  · rw [Nat.min_eq_left (by omega), Nat.min_eq_left (by omega), spJ, decide_eq_false h, Bool.false_or]; rfl
theorem noTk_j (S : kSt) (q j : Nat) : noTk S q (min (j + 1) (S.2 0 3)) = (noTk S q (min j (S.2 0 3)) && tkJ S q j) := by
  by_cases h : S.2 0 3 ≤ j
  · rw [Nat.min_eq_right (by omega), Nat.min_eq_right h, tkJ, decide_eq_true h, Bool.true_or, Bool.and_true]
  · rw [Nat.min_eq_left (by omega), Nat.min_eq_left (by omega), tkJ, decide_eq_false h, Bool.false_or]; rfl
theorem noRp_j (S : kSt) (q j : Nat) : noRp S q (min (j + 1) (S.2 0 1)) = (noRp S q (min j (S.2 0 1)) && rpJ S q j) := by
  by_cases h : S.2 0 1 ≤ j
  · rw [Nat.min_eq_right (by omega), Nat.min_eq_right h, rpJ, decide_eq_true h, Bool.true_or, Bool.and_true]
  · rw [Nat.min_eq_left (by omega), Nat.min_eq_left (by omega), rpJ, decide_eq_false h, Bool.false_or]; rfl
theorem canJ_s (S : kSt) (c q j : Nat) : canJ S c q (j + 1) = (canJ S c q j && (spJ S q j && (tkJ S q j && rpJ S q j))) := by
  unfold canJ
  rw [noSp_j, noTk_j, noRp_j]
  cases cA S c q <;> cases noSp S q (min j (S.2 0 2)) <;> cases noTk S q (min j (S.2 0 3)) <;> cases noRp S q (min j (S.2 0 1)) <;> cases spJ S q j <;> cases tkJ S q j <;> cases rpJ S q j <;> rfl
theorem canJ_0 (S : kSt) (c q : Nat) : canJ S c q 0 = cA S c q := by
  unfold canJ
  rw [Nat.zero_min, Nat.zero_min, Nat.zero_min]
  simp [noSp, noTk, noRp]
theorem canJ_30 {S A : kSt} (h : LT S A) (c q : Nat) : canJ S c q 30 = (decide (S.2 2 q = c) && canA S q) := by
  obtain ⟨h0, h1, h2, h3⟩ := h.c
  unfold canJ cA canA
  rw [Nat.min_eq_right h1, Nat.min_eq_right h2, Nat.min_eq_right h3]
  cases decide (S.1 8 q = 0) <;> cases decide (S.2 2 q = c) <;> simp
theorem arcS_y {S : kSt} {c n : Nat} (h : (decide (S.2 2 n = c) && canA S n) = true) : arcS S c (n + 1) = arcS (sI S 8 n 1) c n ∧ arcN S c (n + 1) = arcN (sI S 8 n 1) c n + 1 := by
  rw [Bool.and_eq_true, decide_eq_true_eq] at h
  exact ⟨if_pos h, if_pos h⟩
theorem arcS_n {S : kSt} {c n : Nat} (h : (decide (S.2 2 n = c) && canA S n) = false) : arcS S c (n + 1) = arcS S c n ∧ arcN S c (n + 1) = arcN S c n := by
  have h' : ¬ (S.2 2 n = c ∧ canA S n = true) := fun z => by rw [decide_eq_true z.1, z.2] at h; exact absurd h (by decide)
  exact ⟨if_neg h', if_neg h'⟩
theorem LT.arch {M A : kSt} (h : LT M A) {q : Nat} (h8 : M.1 8 q = 0) : LT (sI M 8 q 1) (sI A 2 q (nI (encm M q + 8192))) := by
  obtain ⟨hg, hn, hu, hm, hz, hb, hs, ht⟩ := h
  refine ⟨hg.c (sI_f (by decide)) rfl (fun j _ => sI_f (by decide)), hn.c rfl, hu.c rfl (sI_fn (by decide)) (sI_fn (by decide)) (sI_fn (by decide)), fun j hj => ?_, hz.c (Nat.le_refl _) (sI_fn (by decide)) (sI_fn (by decide)), hb.c (sI_fn (by decide)) (sI_fn (by decide)) (sI_fn (by decide)), hs.c rfl rfl (sI_fn (by decide)) (sI_fn (by decide)) (sI_fn (by decide)) (sI_fn (by decide)) (sI_fn (by decide)), ht.c rfl rfl rfl (sI_fn (by decide)) (sI_fn (by decide)) (sI_fn (by decide)) (sI_fn (by decide)) (sI_fn (by decide))⟩
  obtain ⟨m1, m2, m3, m4, m5, m6, m7⟩ := hm j hj
  have e5 : (sI M 8 q 1).1 5 = M.1 5 := sI_fn (by decide)
  have ep : pm (sI M 8 q 1) j = pm M j := by unfold pm; rw [e5]
  rw [show (sI M 8 q 1).1 7 = M.1 7 from sI_fn (by decide), show (sI M 8 q 1).1 6 = M.1 6 from sI_fn (by decide), e5, ep, kdS_sI (by decide), show (sI A 2 q (nI (encm M q + 8192))).1 3 = A.1 3 from sI_fn (by decide), show (sI A 2 q (nI (encm M q + 8192))).1 4 = A.1 4 from sI_fn (by decide), show (sI A 2 q (nI (encm M q + 8192))).1 5 = A.1 5 from sI_fn (by decide)]
  by_cases e : j = q
  · subst e
    refine ⟨?_, m2, m3, m4, m5, by rw [sI_s]; exact Or.inr rfl, m7⟩
    rw [sI_s]
    refine congrArg nI ?_
    unfold encm
    rw [ep, sI_s, h8]
    show _ + 8192 * 0 + 8192 = _ + 8192 * 1
    rfl
  · refine ⟨?_, m2, m3, m4, m5, by rw [sI_n e]; exact m6, m7⟩
    rw [sI_n e, m1]
    refine congrArg nI ?_
    unfold encm
    rw [ep, sI_n e]
    rfl
theorem dL_archived_0 : decode cL_archived 0 = .ok (.iconst 0, 1) := by decide +kernel
theorem dL_archived_1 : decode cL_archived 1 = .ok (.istore 6, 2) := by decide +kernel
theorem dL_archived_3 : decode cL_archived 3 = .ok (.aload 4, 2) := by decide +kernel
theorem dL_archived_5 : decode cL_archived 5 = .ok (.iconst 2, 1) := by decide +kernel
theorem dL_archived_6 : decode cL_archived 6 = .ok (.iaload, 1) := by decide +kernel
theorem dL_archived_7 : decode cL_archived 7 = .ok (.iconst 1, 1) := by decide +kernel
theorem dL_archived_8 : decode cL_archived 8 = .ok (.isub, 1) := by decide +kernel
theorem dL_archived_9 : decode cL_archived 9 = .ok (.istore 7, 2) := by decide +kernel
theorem dL_archived_11 : decode cL_archived 11 = .ok (.iload 7, 2) := by decide +kernel
theorem dL_archived_13 : decode cL_archived 13 = .ok (.ifCond .lt 215, 3) := by decide +kernel
theorem dL_archived_16 : decode cL_archived 16 = .ok (.aload_n 0, 1) := by decide +kernel
theorem dL_archived_17 : decode cL_archived 17 = .ok (.iload 7, 2) := by decide +kernel
theorem dL_archived_19 : decode cL_archived 19 = .ok (.iaload, 1) := by decide +kernel
theorem dL_archived_20 : decode cL_archived 20 = .ok (.sipush 8192, 3) := by decide +kernel
theorem dL_archived_23 : decode cL_archived 23 = .ok (.if_icmp .ge 37, 3) := by decide +kernel
theorem dL_archived_26 : decode cL_archived 26 = .ok (.aload_n 0, 1) := by decide +kernel
theorem dL_archived_27 : decode cL_archived 27 = .ok (.iload 7, 2) := by decide +kernel
theorem dL_archived_29 : decode cL_archived 29 = .ok (.iaload, 1) := by decide +kernel
theorem dL_archived_30 : decode cL_archived 30 = .ok (.bipush 16, 2) := by decide +kernel
theorem dL_archived_32 : decode cL_archived 32 = .ok (.idiv, 1) := by decide +kernel
theorem dL_archived_33 : decode cL_archived 33 = .ok (.bipush 8, 2) := by decide +kernel
theorem dL_archived_35 : decode cL_archived 35 = .ok (.irem, 1) := by decide +kernel
theorem dL_archived_36 : decode cL_archived 36 = .ok (.iload 5, 2) := by decide +kernel
theorem dL_archived_38 : decode cL_archived 38 = .ok (.if_icmp .ne 22, 3) := by decide +kernel
theorem dL_archived_41 : decode cL_archived 41 = .ok (.aload 4, 2) := by decide +kernel
theorem dL_archived_43 : decode cL_archived 43 = .ok (.iconst 0, 1) := by decide +kernel
theorem dL_archived_44 : decode cL_archived 44 = .ok (.iaload, 1) := by decide +kernel
theorem dL_archived_45 : decode cL_archived 45 = .ok (.aload_n 1, 1) := by decide +kernel
theorem dL_archived_46 : decode cL_archived 46 = .ok (.iload 7, 2) := by decide +kernel
theorem dL_archived_48 : decode cL_archived 48 = .ok (.iaload, 1) := by decide +kernel
theorem dL_archived_49 : decode cL_archived 49 = .ok (.sipush 720, 3) := by decide +kernel
theorem dL_archived_52 : decode cL_archived 52 = .ok (.iadd, 1) := by decide +kernel
theorem dL_archived_53 : decode cL_archived 53 = .ok (.if_icmp .lt 7, 3) := by decide +kernel
theorem dL_archived_56 : decode cL_archived 56 = .ok (.iconst 1, 1) := by decide +kernel
theorem dL_archived_57 : decode cL_archived 57 = .ok (.goto 4, 3) := by decide +kernel
theorem dL_archived_60 : decode cL_archived 60 = .ok (.iconst 0, 1) := by decide +kernel
theorem dL_archived_61 : decode cL_archived 61 = .ok (.istore 8, 2) := by decide +kernel
theorem dL_archived_63 : decode cL_archived 63 = .ok (.iconst 0, 1) := by decide +kernel
theorem dL_archived_64 : decode cL_archived 64 = .ok (.istore 9, 2) := by decide +kernel
theorem dL_archived_66 : decode cL_archived 66 = .ok (.iload 9, 2) := by decide +kernel
theorem dL_archived_68 : decode cL_archived 68 = .ok (.bipush 30, 2) := by decide +kernel
theorem dL_archived_70 : decode cL_archived 70 = .ok (.if_icmp .ge 118, 3) := by decide +kernel
theorem dL_archived_73 : decode cL_archived 73 = .ok (.iload 8, 2) := by decide +kernel
theorem dL_archived_75 : decode cL_archived 75 = .ok (.ifCond .eq 104, 3) := by decide +kernel
theorem dL_archived_78 : decode cL_archived 78 = .ok (.iload 9, 2) := by decide +kernel
theorem dL_archived_80 : decode cL_archived 80 = .ok (.aload 4, 2) := by decide +kernel
theorem dL_archived_82 : decode cL_archived 82 = .ok (.iconst 3, 1) := by decide +kernel
theorem dL_archived_83 : decode cL_archived 83 = .ok (.iaload, 1) := by decide +kernel
theorem dL_archived_84 : decode cL_archived 84 = .ok (.if_icmp .ge 24, 3) := by decide +kernel
theorem dL_archived_87 : decode cL_archived 87 = .ok (.aload_n 2, 1) := by decide +kernel
theorem dL_archived_88 : decode cL_archived 88 = .ok (.iload 9, 2) := by decide +kernel
theorem dL_archived_90 : decode cL_archived 90 = .ok (.iaload, 1) := by decide +kernel
theorem dL_archived_91 : decode cL_archived 91 = .ok (.bipush 64, 2) := by decide +kernel
theorem dL_archived_93 : decode cL_archived 93 = .ok (.irem, 1) := by decide +kernel
theorem dL_archived_94 : decode cL_archived 94 = .ok (.iload 7, 2) := by decide +kernel
theorem dL_archived_96 : decode cL_archived 96 = .ok (.if_icmp .ne 12, 3) := by decide +kernel
theorem dL_archived_99 : decode cL_archived 99 = .ok (.aload_n 2, 1) := by decide +kernel
theorem dL_archived_100 : decode cL_archived 100 = .ok (.iload 9, 2) := by decide +kernel
theorem dL_archived_102 : decode cL_archived 102 = .ok (.iaload, 1) := by decide +kernel
theorem dL_archived_103 : decode cL_archived 103 = .ok (.ldc 113, 2) := by decide +kernel
theorem dL_archived_105 : decode cL_archived 105 = .ok (.if_icmp .le 74, 3) := by decide +kernel
theorem dL_archived_108 : decode cL_archived 108 = .ok (.iload 9, 2) := by decide +kernel
theorem dL_archived_110 : decode cL_archived 110 = .ok (.aload 4, 2) := by decide +kernel
theorem dL_archived_112 : decode cL_archived 112 = .ok (.iconst 4, 1) := by decide +kernel
theorem dL_archived_113 : decode cL_archived 113 = .ok (.iaload, 1) := by decide +kernel
theorem dL_archived_114 : decode cL_archived 114 = .ok (.if_icmp .ge 24, 3) := by decide +kernel
theorem dL_archived_117 : decode cL_archived 117 = .ok (.aload_n 3, 1) := by decide +kernel
theorem dL_archived_118 : decode cL_archived 118 = .ok (.iload 9, 2) := by decide +kernel
theorem dL_archived_120 : decode cL_archived 120 = .ok (.iaload, 1) := by decide +kernel
theorem dL_archived_121 : decode cL_archived 121 = .ok (.bipush 64, 2) := by decide +kernel
theorem dL_archived_123 : decode cL_archived 123 = .ok (.irem, 1) := by decide +kernel
theorem dL_archived_124 : decode cL_archived 124 = .ok (.iload 7, 2) := by decide +kernel
theorem dL_archived_126 : decode cL_archived 126 = .ok (.if_icmp .ne 12, 3) := by decide +kernel
theorem dL_archived_129 : decode cL_archived 129 = .ok (.aload_n 3, 1) := by decide +kernel
theorem dL_archived_130 : decode cL_archived 130 = .ok (.iload 9, 2) := by decide +kernel
theorem dL_archived_132 : decode cL_archived 132 = .ok (.iaload, 1) := by decide +kernel
theorem dL_archived_133 : decode cL_archived 133 = .ok (.ldc 114, 2) := by decide +kernel
theorem dL_archived_135 : decode cL_archived 135 = .ok (.if_icmp .le 44, 3) := by decide +kernel
theorem dL_archived_138 : decode cL_archived 138 = .ok (.iload 9, 2) := by decide +kernel
theorem dL_archived_140 : decode cL_archived 140 = .ok (.aload 4, 2) := by decide +kernel
theorem dL_archived_142 : decode cL_archived 142 = .ok (.iconst 2, 1) := by decide +kernel
theorem dL_archived_143 : decode cL_archived 143 = .ok (.iaload, 1) := by decide +kernel
theorem dL_archived_144 : decode cL_archived 144 = .ok (.if_icmp .ge 31, 3) := by decide +kernel
theorem dL_archived_147 : decode cL_archived 147 = .ok (.aload_n 0, 1) := by decide +kernel
theorem dL_archived_148 : decode cL_archived 148 = .ok (.iload 9, 2) := by decide +kernel
theorem dL_archived_150 : decode cL_archived 150 = .ok (.iaload, 1) := by decide +kernel
theorem dL_archived_151 : decode cL_archived 151 = .ok (.sipush 128, 3) := by decide +kernel
theorem dL_archived_154 : decode cL_archived 154 = .ok (.idiv, 1) := by decide +kernel
theorem dL_archived_155 : decode cL_archived 155 = .ok (.bipush 64, 2) := by decide +kernel
theorem dL_archived_157 : decode cL_archived 157 = .ok (.irem, 1) := by decide +kernel
theorem dL_archived_158 : decode cL_archived 158 = .ok (.iconst 1, 1) := by decide +kernel
theorem dL_archived_159 : decode cL_archived 159 = .ok (.isub, 1) := by decide +kernel
theorem dL_archived_160 : decode cL_archived 160 = .ok (.iload 7, 2) := by decide +kernel
theorem dL_archived_162 : decode cL_archived 162 = .ok (.if_icmp .ne 13, 3) := by decide +kernel
theorem dL_archived_165 : decode cL_archived 165 = .ok (.aload_n 0, 1) := by decide +kernel
theorem dL_archived_166 : decode cL_archived 166 = .ok (.iload 9, 2) := by decide +kernel
theorem dL_archived_168 : decode cL_archived 168 = .ok (.iaload, 1) := by decide +kernel
theorem dL_archived_169 : decode cL_archived 169 = .ok (.sipush 8191, 3) := by decide +kernel
theorem dL_archived_172 : decode cL_archived 172 = .ok (.if_icmp .le 7, 3) := by decide +kernel
theorem dL_archived_175 : decode cL_archived 175 = .ok (.iconst 1, 1) := by decide +kernel
theorem dL_archived_176 : decode cL_archived 176 = .ok (.goto 4, 3) := by decide +kernel
theorem dL_archived_179 : decode cL_archived 179 = .ok (.iconst 0, 1) := by decide +kernel
theorem dL_archived_180 : decode cL_archived 180 = .ok (.istore 8, 2) := by decide +kernel
theorem dL_archived_182 : decode cL_archived 182 = .ok (.iinc 9 1, 3) := by decide +kernel
theorem dL_archived_185 : decode cL_archived 185 = .ok (.goto (-119), 3) := by decide +kernel
theorem dL_archived_188 : decode cL_archived 188 = .ok (.aload_n 0, 1) := by decide +kernel
theorem dL_archived_189 : decode cL_archived 189 = .ok (.iload 7, 2) := by decide +kernel
theorem dL_archived_191 : decode cL_archived 191 = .ok (.dup2, 1) := by decide +kernel
theorem dL_archived_192 : decode cL_archived 192 = .ok (.iaload, 1) := by decide +kernel
theorem dL_archived_193 : decode cL_archived 193 = .ok (.iload 8, 2) := by decide +kernel
theorem dL_archived_195 : decode cL_archived 195 = .ok (.ifCond .eq 9, 3) := by decide +kernel
theorem dL_archived_198 : decode cL_archived 198 = .ok (.sipush 8192, 3) := by decide +kernel
theorem dL_archived_201 : decode cL_archived 201 = .ok (.goto 4, 3) := by decide +kernel
theorem dL_archived_204 : decode cL_archived 204 = .ok (.iconst 0, 1) := by decide +kernel
theorem dL_archived_205 : decode cL_archived 205 = .ok (.iadd, 1) := by decide +kernel
theorem dL_archived_206 : decode cL_archived 206 = .ok (.iastore, 1) := by decide +kernel
theorem dL_archived_207 : decode cL_archived 207 = .ok (.iload 6, 2) := by decide +kernel
theorem dL_archived_209 : decode cL_archived 209 = .ok (.iload 8, 2) := by decide +kernel
theorem dL_archived_211 : decode cL_archived 211 = .ok (.ifCond .eq 7, 3) := by decide +kernel
theorem dL_archived_214 : decode cL_archived 214 = .ok (.iconst 1, 1) := by decide +kernel
theorem dL_archived_215 : decode cL_archived 215 = .ok (.goto 4, 3) := by decide +kernel
theorem dL_archived_218 : decode cL_archived 218 = .ok (.iconst 0, 1) := by decide +kernel
theorem dL_archived_219 : decode cL_archived 219 = .ok (.iadd, 1) := by decide +kernel
theorem dL_archived_220 : decode cL_archived 220 = .ok (.istore 6, 2) := by decide +kernel
theorem dL_archived_222 : decode cL_archived 222 = .ok (.iinc 7 (-1), 3) := by decide +kernel
theorem dL_archived_225 : decode cL_archived 225 = .ok (.goto (-214), 3) := by decide +kernel
theorem dL_archived_228 : decode cL_archived 228 = .ok (.iload 6, 2) := by decide +kernel
theorem dL_archived_230 : decode cL_archived 230 = .ok (.ireturn, 1) := by decide +kernel
set_option maxHeartbeats 4000000 in
set_option maxRecDepth 100000 in
theorem c_L_archived (l : Launch) (E : State) (G : kG) (S T : kSt) (o : Int64) (ad : kAd) (M : kSt) (hT : LT M T) (hN : okN M) (ch hr9 : Nat) (hch : ch < 6) (hh : hr9 < 100000) (he : M.1 0 0 = nI hr9) : Met l yL_archived (.code yL_archived cL_archived 10 (some .int) :: wsL_law) ({ frames := 1, cells := 0, slots := 0, locals := 30 } : Room) (va_Pc [.ref (ad 17 1), .ref (ad 17 3), .ref (ad 17 6), .ref (ad 17 8), .ref (ad 17 10), .int (nI ch)] (kPre E G ad (cto G S T o ad))) (kQi E G (fun r ad1 ct1 => (r = nI (arcN M ch (M.2 0 1)) ∧ ad = ad1) ∧ ∃ T1, ct1 = cto G S T1 o ad ∧ LT (arcS M ch (M.2 0 1)) T1 ∧ T1.1 11 = T.1 11)) 0 0 (kB E.heap.size) := by
  refine Met.ofW (cc := cL_archived) (maxL := 10) (ret := (some .int)) (by decide) rfl ?_
  intro p e s m args below meth c s₁ B hml hv
  obtain ⟨rfl, hM, hK, hW0⟩ := hv
  have hlocks := B.notSynchronized
  have hr := B.returns
  have Z : kZ p m c cL_archived 10 s _ wsL_law RL E G := ⟨⟨B.exec, B.bytes, hml, findClass_of_methodNamed B.named, fun w h => atoms_spec (ws := .code yL_archived cL_archived 10 (some .int) :: wsL_law) B.pre w (List.mem_cons_of_mem _ h)⟩, hM, hK⟩
  have hx := Z.1.1
  have hb := Z.1.2.1
  have X := kX.of hW0
  have hl := lv_entry ([.ref (ad 17 1), .ref (ad 17 3), .ref (ad 17 6), .ref (ad 17 8), .ref (ad 17 10), .int (nI ch)]) (n := 10) (Nat.le_of_ble_eq_true rfl)
  rw [lg_entry_eq]
  generalize (lg_sl ([.ref (ad 17 1), .ref (ad 17 3), .ref (ad 17 6), .ref (ad 17 8), .ref (ad 17 10), .int (nI ch)]) ++ List.replicate (10 - (lg_sl ([.ref (ad 17 1), .ref (ad 17 3), .ref (ad 17 6), .ref (ad 17 8), .ref (ad 17 10), .int (nI ch)])).length) Slot.unset).toArray = ls at hl ⊢
  have hl : lv_has ls 10 [(0, .ref (ad 17 1)), (1, .ref (ad 17 3)), (2, .ref (ad 17 6)), (3, .ref (ad 17 8)), (4, .ref (ad 17 10)), (5, .int (nI ch))] := hl
  obtain ⟨hcz0, hcz1, hcz2, hcz3⟩ := hT.c
  refine lv_iconst (v := 0) hx hb dL_archived_0 (by decide) ?_
  refine lv_istore (lv' := [(6, .int 0), (0, .ref (ad 17 1)), (1, .ref (ad 17 3)), (2, .ref (ad 17 6)), (3, .ref (ad 17 8)), (4, .ref (ad 17 10)), (5, .int (nI ch))]) hx hb dL_archived_1 hl (by decide) rfl (fun ls hl => ?_)
  refine lv_aload hx hb dL_archived_3 (lv_at hl 5 rfl) ?_
  refine lv_iconst (v := 2) hx hb dL_archived_5 (by decide) ?_
  refine k_ild (ad := ad) (k := 17) (i := 10) Z X ct_17_10 (vp_in_nI (n := 2) (by first | assumption | omega) (by decide)) dL_archived_6 ?_
  refine lv_topi (fun x_6 e_6 => ?_)
  obtain rfl : x_6 = T.1 11 2 := e_6.trans (by first | (simp only [nI_clamp (show 2 < 2 ^ 31 by omega)]; done) | rfl | (simp only [nI_clamp (show 2 < 2 ^ 31 by omega)]; rfl) | (simp only [nI_clamp (show 2 < 2 ^ 31 by omega)]; simp [sI, sN]; done))
  refine lv_topi (fun x_6 e_6 => ?_)
  obtain rfl : x_6 = nI (M.2 0 1) := e_6.trans (hT.g2)
  refine lv_iconst (v := 1) hx hb dL_archived_7 (by decide) ?_
  refine lv_isub hx hb dL_archived_8 ?_
  refine lv_istore (lv' := [(7, .int ((nI (M.2 0 1)) - 1)), (6, .int 0), (0, .ref (ad 17 1)), (1, .ref (ad 17 3)), (2, .ref (ad 17 6)), (3, .ref (ad 17 8)), (4, .ref (ad 17 10)), (5, .int (nI ch))]) hx hb dL_archived_9 hl (by decide) rfl (fun ls hl => ?_)
  have LOOP_11 : ∀ (d : Nat) (n : Nat) (Mq : kSt) (Tq : kSt) (cq : Nat), n ≤ M.2 0 1 → arcS Mq ch n = arcS M ch (M.2 0 1) → cq + arcN Mq ch n = arcN M ch (M.2 0 1) → LT Mq Tq → Mq.2 = M.2 → Mq.1 0 0 = nI hr9 → Tq.1 11 = T.1 11 → n < d → ∀ (H : Heap) (locs : List Loc) (ls : Array Slot), kX E G s H locs ad (cto G S Tq o ad) → lv_has ls 10 [(7, .int (nI n - 1)), (6, .int (nI cq)), (0, .ref (ad 17 1)), (1, .ref (ad 17 3)), (2, .ref (ad 17 6)), (3, .ref (ad 17 8)), (4, .ref (ad 17 10)), (5, .int (nI ch))] → W p l e (headSpec (Cond.code yL_archived cL_archived 10 (some .int) :: wsL_law) ({ frames := 1, cells := 0, slots := 0, locals := 30 } : Room)).room s m ([.ref (ad 17 1), .ref (ad 17 3), .ref (ad 17 6), .ref (ad 17 8), .ref (ad 17 10), .int (nI ch)] : List Value).toArray below meth c H locs 0 0 (MQ below (kQi E G (fun r ad1 ct1 => (r = nI (arcN M ch (M.2 0 1)) ∧ ad = ad1) ∧ ∃ T1, ct1 = cto G S T1 o ad ∧ LT (arcS M ch (M.2 0 1)) T1 ∧ T1.1 11 = T.1 11)) ([.ref (ad 17 1), .ref (ad 17 3), .ref (ad 17 6), .ref (ad 17 8), .ref (ad 17 10), .int (nI ch)] : List Value).toArray s 0 0 (kB E.heap.size)) (F0 m 11 ls []) := by
    intro d
    induction d with
    | zero => intro n Mq Tq cq h1 hAS hAN hTq e2 heq h11 h2; intros; exact absurd h2 (by omega)
    | succ d ih =>
      intro n Mq Tq cq h1 hAS hAN hTq e2 heq h11 h2 H locs ls X hl
      have hNq : okN Mq := okN_c e2 hN
      have e01 : Mq.2 0 1 = M.2 0 1 := by rw [e2]
      obtain ⟨hc0, hc1, hc2, hc3⟩ := hTq.c
      refine lv_iload hx hb dL_archived_11 (lv_at hl 0 rfl) ?_
      refine lv_if_lt (tgt := 228) hx hb dL_archived_13 (by decide) (fun c_13 => ?_) (fun c_13 => ?_)
      · have hn0 : n = 0 := (m1_lt (by omega)).mp c_13
        refine lv_iload hx hb dL_archived_228 (lv_at hl 1 rfl) ?_
        subst hn0
        exact k_iret Z X hr hlocks rfl (by omega) (by omega) dL_archived_230 ⟨⟨congrArg nI (by rw [← hAN]; rfl), rfl⟩, Tq, rfl, by rw [← hAS]; exact hTq, h11⟩
      · obtain ⟨q, rfl⟩ : ∃ q, n = q + 1 := ⟨n - 1, by have : n ≠ 0 := fun z => c_13 ((m1_lt (by omega)).mpr z); omega⟩
        rw [nI_pred] at hl
        obtain ⟨hp, hp1, ehp⟩ := (hTq.2.2.2.1 q (by omega)).2.2.2.2.2.2
        have hem := (hTq.mm hNq (j := q) (by omega)).1
        have hem6 := (hTq.mm hNq (j := q) (by omega)).2.2.2.2.2
        have hchq := (hNq.2.2.2.2.1 q (by omega)).2
        have M_61 : ∀ (H : Heap) (locs : List Loc), kX E G s H locs ad (cto G S Tq o ad) → W p l e (headSpec (Cond.code yL_archived cL_archived 10 (some .int) :: wsL_law) ({ frames := 1, cells := 0, slots := 0, locals := 30 } : Room)).room s m ([.ref (ad 17 1), .ref (ad 17 3), .ref (ad 17 6), .ref (ad 17 8), .ref (ad 17 10), .int (nI ch)] : List Value).toArray below meth c H locs 0 0 (MQ below (kQi E G (fun r ad1 ct1 => (r = nI (arcN M ch (M.2 0 1)) ∧ ad = ad1) ∧ ∃ T1, ct1 = cto G S T1 o ad ∧ LT (arcS M ch (M.2 0 1)) T1 ∧ T1.1 11 = T.1 11)) ([.ref (ad 17 1), .ref (ad 17 3), .ref (ad 17 6), .ref (ad 17 8), .ref (ad 17 10), .int (nI ch)] : List Value).toArray s 0 0 (kB E.heap.size)) (F0 m 61 ls [.int (bI (cA Mq ch q))]) := by
          intro H locs X
          refine lv_istore (lv' := [(8, .int (bI (cA Mq ch q))), (7, .int (nI q)), (6, .int (nI cq)), (0, .ref (ad 17 1)), (1, .ref (ad 17 3)), (2, .ref (ad 17 6)), (3, .ref (ad 17 8)), (4, .ref (ad 17 10)), (5, .int (nI ch))]) hx hb dL_archived_61 hl (by decide) rfl (fun ls hl => ?_)
          refine lv_iconst (v := 0) hx hb dL_archived_63 (by decide) ?_
          refine lv_istore (lv' := [(9, .int 0), (8, .int (bI (cA Mq ch q))), (7, .int (nI q)), (6, .int (nI cq)), (0, .ref (ad 17 1)), (1, .ref (ad 17 3)), (2, .ref (ad 17 6)), (3, .ref (ad 17 8)), (4, .ref (ad 17 10)), (5, .int (nI ch))]) hx hb dL_archived_64 hl (by decide) rfl (fun ls hl => ?_)
          rw [← canJ_0] at hl
          have LOOP_66 : ∀ (dj : Nat) (j : Nat), j ≤ 30 → 30 < j + dj → ∀ (H : Heap) (locs : List Loc) (ls : Array Slot), kX E G s H locs ad (cto G S Tq o ad) → lv_has ls 10 [(9, .int (nI j)), (8, .int (bI (canJ Mq ch q j))), (7, .int (nI q)), (6, .int (nI cq)), (0, .ref (ad 17 1)), (1, .ref (ad 17 3)), (2, .ref (ad 17 6)), (3, .ref (ad 17 8)), (4, .ref (ad 17 10)), (5, .int (nI ch))] → W p l e (headSpec (Cond.code yL_archived cL_archived 10 (some .int) :: wsL_law) ({ frames := 1, cells := 0, slots := 0, locals := 30 } : Room)).room s m ([.ref (ad 17 1), .ref (ad 17 3), .ref (ad 17 6), .ref (ad 17 8), .ref (ad 17 10), .int (nI ch)] : List Value).toArray below meth c H locs 0 0 (MQ below (kQi E G (fun r ad1 ct1 => (r = nI (arcN M ch (M.2 0 1)) ∧ ad = ad1) ∧ ∃ T1, ct1 = cto G S T1 o ad ∧ LT (arcS M ch (M.2 0 1)) T1 ∧ T1.1 11 = T.1 11)) ([.ref (ad 17 1), .ref (ad 17 3), .ref (ad 17 6), .ref (ad 17 8), .ref (ad 17 10), .int (nI ch)] : List Value).toArray s 0 0 (kB E.heap.size)) (F0 m 66 ls []) := by
            intro dj
            induction dj with
            | zero => intro j hj1 hj2; intros; exact absurd hj2 (by omega)
            | succ dj ihj =>
              intro j hj1 hj2 H locs ls X hl
              refine lv_iload hx hb dL_archived_66 (lv_at hl 0 rfl) ?_
              refine lv_bipush (v := 30) hx hb dL_archived_68 (by decide) ?_
              refine lv_icmp_ge (tgt := 188) hx hb dL_archived_70 (by decide) (fun c_70 => ?_) (fun c_70 => ?_)
              · have c_70 : 30 ≤ j := (nI_leI (a := 30) (b := j) (by omega) (by omega)).mp c_70
                have hj30 : j = 30 := by omega
                rw [hj30, canJ_30 hTq] at hl
                refine lv_aload_n hx hb dL_archived_188 rfl (lv_at hl 4 rfl) ?_
                refine lv_iload hx hb dL_archived_189 (lv_at hl 2 rfl) ?_
                refine lv_dup2_11 hx hb dL_archived_191 rfl rfl ?_
                refine k_ild (ad := ad) (k := 17) (i := 1) Z X ct_17_1 (vp_in_nI (n := q) (by first | assumption | omega) (by decide)) dL_archived_192 ?_
                refine lv_topi (fun x_192 e_192 => ?_)
                obtain rfl : x_192 = Tq.1 2 q := e_192.trans (by first | (simp only [nI_clamp (show q < 2 ^ 31 by omega)]; done) | rfl | (simp only [nI_clamp (show q < 2 ^ 31 by omega)]; rfl) | (simp only [nI_clamp (show q < 2 ^ 31 by omega)]; simp [sI, sN]; done))
                refine lv_topi (fun x_192 e_192 => ?_)
                obtain rfl : x_192 = nI (encm Mq q) := e_192.trans (hTq.m (by omega))
                refine lv_iload hx hb dL_archived_193 (lv_at hl 1 rfl) ?_
                refine lv_if_eq (tgt := 204) hx hb dL_archived_195 (by decide) (fun c_195 => ?_) (fun c_195 => ?_)
                · have c_195 : (decide (Mq.2 2 q = ch) && canA Mq q) = false := bI_0 c_195
                  rw [c_195] at hl
                  refine lv_iconst (v := 0) hx hb dL_archived_204 (by decide) ?_
                  refine lv_iadd hx hb dL_archived_205 ?_
                  refine lv_topi (fun x_205 e_205 => ?_)
                  obtain rfl : x_205 = nI ((encm Mq q) + 0) := e_205.trans (nI_add (encm Mq q) 0)
                  refine k_ist (ad := ad) (k := 17) (i := 1) Z X ct_17_1 (vp_in_nI (n := q) (by first | assumption | omega) (by decide)) dL_archived_206 (fun H locs X => ?_)
                  have X : kX E G s H locs ad (cto G S (sI Tq 2 q (nI ((encm Mq q) + 0))) o ad) := X.eq (st_17 (a := 1) (by decide) q _ (by omega))
                  refine lv_iload hx hb dL_archived_207 (lv_at hl 3 rfl) ?_
                  refine lv_iload hx hb dL_archived_209 (lv_at hl 1 rfl) ?_
                  refine lv_if_eq (tgt := 218) hx hb dL_archived_211 (by decide) (fun c_211 => ?_) (fun c_211 => ?_)
                  · refine lv_iconst (v := 0) hx hb dL_archived_218 (by decide) ?_
                    refine lv_iadd hx hb dL_archived_219 ?_
                    refine lv_topi (fun x_219 e_219 => ?_)
                    obtain rfl : x_219 = nI (cq + 0) := e_219.trans (nI_add cq 0)
                    refine lv_istore (lv' := [(6, .int (nI (cq + 0))), (9, .int (nI 30)), (8, .int (bI false)), (7, .int (nI q)), (0, .ref (ad 17 1)), (1, .ref (ad 17 3)), (2, .ref (ad 17 6)), (3, .ref (ad 17 8)), (4, .ref (ad 17 10)), (5, .int (nI ch))]) hx hb dL_archived_220 hl (by decide) rfl (fun ls hl => ?_)
                    refine lv_iinc (v := (nI q - 1)) (lv' := [(7, .int (nI q - 1)), (6, .int (nI (cq + 0))), (9, .int (nI 30)), (8, .int (bI false)), (0, .ref (ad 17 1)), (1, .ref (ad 17 3)), (2, .ref (ad 17 6)), (3, .ref (ad 17 8)), (4, .ref (ad 17 10)), (5, .int (nI ch))]) hx hb dL_archived_222 hl (k := 3) rfl (by rw [Int32.sub_eq_add_neg]; rfl) (by decide) rfl (fun ls hl => ?_)
                    refine lv_goto (tgt := 11) hx hb dL_archived_225 (by decide) ?_
                    have X : kX E G s H locs ad (cto G S Tq o ad) := X.eq (congrArg (fun z => cto G S z o ad) (by rw [Nat.add_zero, ← hTq.m (j := q) (by omega)]; exact sI_id _ _ _))
                    exact ih q Mq Tq (cq + 0) (by omega) ((arcS_n c_195).1.symm.trans hAS) (by have z := (arcS_n c_195).2; omega) hTq e2 heq h11 (by omega) _ _ _ X (lv_sub hl [0, 1, 4, 5, 6, 7, 8, 9] rfl)
                  · exact absurd c_211 (by decide)
                · have c_195 : (decide (Mq.2 2 q = ch) && canA Mq q) = true := bI_1 c_195
                  rw [c_195] at hl
                  have h8q : Mq.1 8 q = 0 := by have z := (Bool.and_eq_true _ _ ▸ c_195).2; simp only [canA, Bool.and_eq_true, decide_eq_true_eq] at z; exact z.1.1
                  refine lv_sipush (v := 8192) hx hb dL_archived_198 (by decide) ?_
                  refine lv_goto (tgt := 205) hx hb dL_archived_201 (by decide) ?_
                  refine lv_iadd hx hb dL_archived_205 ?_
                  refine lv_topi (fun x_205 e_205 => ?_)
                  obtain rfl : x_205 = nI ((encm Mq q) + 8192) := e_205.trans (nI_add (encm Mq q) 8192)
                  refine k_ist (ad := ad) (k := 17) (i := 1) Z X ct_17_1 (vp_in_nI (n := q) (by first | assumption | omega) (by decide)) dL_archived_206 (fun H locs X => ?_)
                  have X : kX E G s H locs ad (cto G S (sI Tq 2 q (nI ((encm Mq q) + 8192))) o ad) := X.eq (st_17 (a := 1) (by decide) q _ (by omega))
                  refine lv_iload hx hb dL_archived_207 (lv_at hl 3 rfl) ?_
                  refine lv_iload hx hb dL_archived_209 (lv_at hl 1 rfl) ?_
                  refine lv_if_eq (tgt := 218) hx hb dL_archived_211 (by decide) (fun c_211 => ?_) (fun c_211 => ?_)
                  · exact absurd c_211 (by decide)
                  · refine lv_iconst (v := 1) hx hb dL_archived_214 (by decide) ?_
                    refine lv_goto (tgt := 219) hx hb dL_archived_215 (by decide) ?_
                    refine lv_iadd hx hb dL_archived_219 ?_
                    refine lv_topi (fun x_219 e_219 => ?_)
                    obtain rfl : x_219 = nI (cq + 1) := e_219.trans (nI_add cq 1)
                    refine lv_istore (lv' := [(6, .int (nI (cq + 1))), (9, .int (nI 30)), (8, .int (bI true)), (7, .int (nI q)), (0, .ref (ad 17 1)), (1, .ref (ad 17 3)), (2, .ref (ad 17 6)), (3, .ref (ad 17 8)), (4, .ref (ad 17 10)), (5, .int (nI ch))]) hx hb dL_archived_220 hl (by decide) rfl (fun ls hl => ?_)
                    refine lv_iinc (v := (nI q - 1)) (lv' := [(7, .int (nI q - 1)), (6, .int (nI (cq + 1))), (9, .int (nI 30)), (8, .int (bI true)), (0, .ref (ad 17 1)), (1, .ref (ad 17 3)), (2, .ref (ad 17 6)), (3, .ref (ad 17 8)), (4, .ref (ad 17 10)), (5, .int (nI ch))]) hx hb dL_archived_222 hl (k := 3) rfl (by rw [Int32.sub_eq_add_neg]; rfl) (by decide) rfl (fun ls hl => ?_)
                    refine lv_goto (tgt := 11) hx hb dL_archived_225 (by decide) ?_
                    exact ih q _ _ (cq + 1) (by omega) ((arcS_y c_195).1.symm.trans hAS) (by have z := (arcS_y c_195).2; omega) (hTq.arch h8q) e2 ((sI_f (by decide)).trans heq) ((sI_fn (by decide)).trans h11) (by omega) _ _ _ X (lv_sub hl [0, 1, 4, 5, 6, 7, 8, 9] rfl)
              · have c_70 : ¬ 30 ≤ j := fun h => c_70 ((nI_leI (a := 30) (b := j) (by omega) (by omega)).mpr h)
                have M_180 : ∀ (H : Heap) (locs : List Loc), kX E G s H locs ad (cto G S Tq o ad) → W p l e (headSpec (Cond.code yL_archived cL_archived 10 (some .int) :: wsL_law) ({ frames := 1, cells := 0, slots := 0, locals := 30 } : Room)).room s m ([.ref (ad 17 1), .ref (ad 17 3), .ref (ad 17 6), .ref (ad 17 8), .ref (ad 17 10), .int (nI ch)] : List Value).toArray below meth c H locs 0 0 (MQ below (kQi E G (fun r ad1 ct1 => (r = nI (arcN M ch (M.2 0 1)) ∧ ad = ad1) ∧ ∃ T1, ct1 = cto G S T1 o ad ∧ LT (arcS M ch (M.2 0 1)) T1 ∧ T1.1 11 = T.1 11)) ([.ref (ad 17 1), .ref (ad 17 3), .ref (ad 17 6), .ref (ad 17 8), .ref (ad 17 10), .int (nI ch)] : List Value).toArray s 0 0 (kB E.heap.size)) (F0 m 180 ls [.int (bI ((canJ Mq ch q j) && (spJ Mq q j && (tkJ Mq q j && rpJ Mq q j))))]) := by
                  intro H locs X
                  refine lv_istore (lv' := [(8, .int (bI ((canJ Mq ch q j) && (spJ Mq q j && (tkJ Mq q j && rpJ Mq q j))))), (9, .int (nI j)), (7, .int (nI q)), (6, .int (nI cq)), (0, .ref (ad 17 1)), (1, .ref (ad 17 3)), (2, .ref (ad 17 6)), (3, .ref (ad 17 8)), (4, .ref (ad 17 10)), (5, .int (nI ch))]) hx hb dL_archived_180 hl (by decide) rfl (fun ls hl => ?_)
                  refine lv_iinc (v := (nI (j + 1))) (lv' := [(9, .int (nI (j + 1))), (8, .int (bI ((canJ Mq ch q j) && (spJ Mq q j && (tkJ Mq q j && rpJ Mq q j))))), (7, .int (nI q)), (6, .int (nI cq)), (0, .ref (ad 17 1)), (1, .ref (ad 17 3)), (2, .ref (ad 17 6)), (3, .ref (ad 17 8)), (4, .ref (ad 17 10)), (5, .int (nI ch))]) hx hb dL_archived_182 hl (k := 1) rfl (nI_1 _) (by decide) rfl (fun ls hl => ?_)
                  refine lv_goto (tgt := 66) hx hb dL_archived_185 (by decide) ?_
                  rw [← canJ_s] at hl
                  exact ihj (j + 1) (by omega) (by omega) _ _ _ X (lv_sub hl [0, 1, 2, 3, 4, 5, 6, 7, 8, 9] rfl)
                refine lv_iload hx hb dL_archived_73 (lv_at hl 1 rfl) ?_
                refine lv_if_eq (tgt := 179) hx hb dL_archived_75 (by decide) (fun c_75 => ?_) (fun c_75 => ?_)
                · have c_75 : (canJ Mq ch q j) = false := bI_0 c_75
                  refine lv_iconst (v := 0) hx hb dL_archived_179 (by decide) ?_
                  exact W.eq (congrArg (fun z => F0 m 180 ls (.int z :: [])) (bI_f (by rw [c_75]; rfl))) (M_180 _ _ X)
                · have c_75 : (canJ Mq ch q j) = true := bI_1 c_75
                  have M_108 : ∀ (H : Heap) (locs : List Loc), kX E G s H locs ad (cto G S Tq o ad) → (spJ Mq q j = true) → W p l e (headSpec (Cond.code yL_archived cL_archived 10 (some .int) :: wsL_law) ({ frames := 1, cells := 0, slots := 0, locals := 30 } : Room)).room s m ([.ref (ad 17 1), .ref (ad 17 3), .ref (ad 17 6), .ref (ad 17 8), .ref (ad 17 10), .int (nI ch)] : List Value).toArray below meth c H locs 0 0 (MQ below (kQi E G (fun r ad1 ct1 => (r = nI (arcN M ch (M.2 0 1)) ∧ ad = ad1) ∧ ∃ T1, ct1 = cto G S T1 o ad ∧ LT (arcS M ch (M.2 0 1)) T1 ∧ T1.1 11 = T.1 11)) ([.ref (ad 17 1), .ref (ad 17 3), .ref (ad 17 6), .ref (ad 17 8), .ref (ad 17 10), .int (nI ch)] : List Value).toArray s 0 0 (kB E.heap.size)) (F0 m 108 ls []) := by
                    intro H locs X f_sp
                    have M_138 : ∀ (H : Heap) (locs : List Loc), kX E G s H locs ad (cto G S Tq o ad) → (tkJ Mq q j = true) → W p l e (headSpec (Cond.code yL_archived cL_archived 10 (some .int) :: wsL_law) ({ frames := 1, cells := 0, slots := 0, locals := 30 } : Room)).room s m ([.ref (ad 17 1), .ref (ad 17 3), .ref (ad 17 6), .ref (ad 17 8), .ref (ad 17 10), .int (nI ch)] : List Value).toArray below meth c H locs 0 0 (MQ below (kQi E G (fun r ad1 ct1 => (r = nI (arcN M ch (M.2 0 1)) ∧ ad = ad1) ∧ ∃ T1, ct1 = cto G S T1 o ad ∧ LT (arcS M ch (M.2 0 1)) T1 ∧ T1.1 11 = T.1 11)) ([.ref (ad 17 1), .ref (ad 17 3), .ref (ad 17 6), .ref (ad 17 8), .ref (ad 17 10), .int (nI ch)] : List Value).toArray s 0 0 (kB E.heap.size)) (F0 m 138 ls []) := by
                      intro H locs X f_tk
                      have M_175 : ∀ (H : Heap) (locs : List Loc), kX E G s H locs ad (cto G S Tq o ad) → (rpJ Mq q j = true) → W p l e (headSpec (Cond.code yL_archived cL_archived 10 (some .int) :: wsL_law) ({ frames := 1, cells := 0, slots := 0, locals := 30 } : Room)).room s m ([.ref (ad 17 1), .ref (ad 17 3), .ref (ad 17 6), .ref (ad 17 8), .ref (ad 17 10), .int (nI ch)] : List Value).toArray below meth c H locs 0 0 (MQ below (kQi E G (fun r ad1 ct1 => (r = nI (arcN M ch (M.2 0 1)) ∧ ad = ad1) ∧ ∃ T1, ct1 = cto G S T1 o ad ∧ LT (arcS M ch (M.2 0 1)) T1 ∧ T1.1 11 = T.1 11)) ([.ref (ad 17 1), .ref (ad 17 3), .ref (ad 17 6), .ref (ad 17 8), .ref (ad 17 10), .int (nI ch)] : List Value).toArray s 0 0 (kB E.heap.size)) (F0 m 175 ls []) := by
                        intro H locs X f_rp
                        refine lv_iconst (v := 1) hx hb dL_archived_175 (by decide) ?_
                        refine lv_goto (tgt := 180) hx hb dL_archived_176 (by decide) ?_
                        exact W.eq (congrArg (fun z => F0 m 180 ls (.int z :: [])) (bI_t (by rw [c_75, f_sp, f_tk, f_rp]; rfl))) (M_180 _ _ X)
                      refine lv_iload hx hb dL_archived_138 (lv_at hl 0 rfl) ?_
                      refine lv_aload hx hb dL_archived_140 (lv_at hl 8 rfl) ?_
                      refine lv_iconst (v := 2) hx hb dL_archived_142 (by decide) ?_
                      refine k_ild (ad := ad) (k := 17) (i := 10) Z X ct_17_10 (vp_in_nI (n := 2) (by first | assumption | omega) (by decide)) dL_archived_143 ?_
                      refine lv_topi (fun x_143 e_143 => ?_)
                      obtain rfl : x_143 = Tq.1 11 2 := e_143.trans (by first | (simp only [nI_clamp (show 2 < 2 ^ 31 by omega)]; done) | rfl | (simp only [nI_clamp (show 2 < 2 ^ 31 by omega)]; rfl) | (simp only [nI_clamp (show 2 < 2 ^ 31 by omega)]; simp [sI, sN]; done))
                      refine lv_topi (fun x_143 e_143 => ?_)
                      obtain rfl : x_143 = nI (Mq.2 0 1) := e_143.trans (hTq.g2)
                      refine lv_icmp_ge (tgt := 175) hx hb dL_archived_144 (by decide) (fun c_144 => ?_) (fun c_144 => ?_)
                      · have c_144 : Mq.2 0 1 ≤ j := (nI_leI (a := Mq.2 0 1) (b := j) (by omega) (by omega)).mp c_144
                        exact M_175 _ _ X (by rw [rpJ, decide_eq_true c_144, Bool.true_or])
                      · have c_144 : ¬ Mq.2 0 1 ≤ j := fun h => c_144 ((nI_leI (a := Mq.2 0 1) (b := j) (by omega) (by omega)).mpr h)
                        have hej := hTq.mm hNq (j := j) (by omega)
                        have hej1 := hej.1
                        refine lv_aload_n hx hb dL_archived_147 rfl (lv_at hl 4 rfl) ?_
                        refine lv_iload hx hb dL_archived_148 (lv_at hl 0 rfl) ?_
                        refine k_ild (ad := ad) (k := 17) (i := 1) Z X ct_17_1 (vp_in_nI (n := j) (by first | assumption | omega) (by decide)) dL_archived_150 ?_
                        refine lv_topi (fun x_150 e_150 => ?_)
                        obtain rfl : x_150 = Tq.1 2 j := e_150.trans (by first | (simp only [nI_clamp (show j < 2 ^ 31 by omega)]; done) | rfl | (simp only [nI_clamp (show j < 2 ^ 31 by omega)]; rfl) | (simp only [nI_clamp (show j < 2 ^ 31 by omega)]; simp [sI, sN]; done))
                        refine lv_topi (fun x_150 e_150 => ?_)
                        obtain rfl : x_150 = nI (encm Mq j) := e_150.trans (hTq.m (by omega))
                        refine lv_sipush (v := 128) hx hb dL_archived_151 (by decide) ?_
                        refine lv_idiv hx hb dL_archived_154 (by decide) ?_
                        refine lv_topi (fun x_154 e_154 => ?_)
                        obtain rfl : x_154 = nI ((encm Mq j) / 128) := e_154.trans ((pk_div (a := (encm Mq j)) (d := 128) (by have := (hTq.mm hNq (j := j) (by omega)).1; omega) (by omega) (by omega)))
                        refine lv_bipush (v := 64) hx hb dL_archived_155 (by decide) ?_
                        refine lv_irem hx hb dL_archived_157 (by decide) ?_
                        refine lv_topi (fun x_157 e_157 => ?_)
                        obtain rfl : x_157 = nI (pm Mq j) := e_157.trans ((pk_rem (a := ((encm Mq j) / 128)) (d := 64) (by have := (hTq.mm hNq (j := j) (by omega)).1; omega) (by omega) (by omega)).trans (congrArg nI (hTq.mm hNq (j := j) (by omega)).2.2.2.1))
                        refine lv_iconst (v := 1) hx hb dL_archived_158 (by decide) ?_
                        refine lv_isub hx hb dL_archived_159 ?_
                        refine lv_topi (fun x_159 e_159 => ?_)
                        obtain rfl : x_159 = Mq.1 5 j := e_159.trans ((hTq.2.2.2.1 j (by omega)).2.2.2.2.1.2.symm)
                        refine lv_iload hx hb dL_archived_160 (lv_at hl 2 rfl) ?_
                        refine lv_icmp_ne (tgt := 175) hx hb dL_archived_162 (by decide) (fun c_162 => ?_) (fun c_162 => ?_)
                        · exact M_175 _ _ X (by rw [rpJ, decide_eq_true (p := Mq.1 5 j ≠ nI q) c_162, Bool.true_or, Bool.or_true])
                        · refine lv_aload_n hx hb dL_archived_165 rfl (lv_at hl 4 rfl) ?_
                          refine lv_iload hx hb dL_archived_166 (lv_at hl 0 rfl) ?_
                          refine k_ild (ad := ad) (k := 17) (i := 1) Z X ct_17_1 (vp_in_nI (n := j) (by first | assumption | omega) (by decide)) dL_archived_168 ?_
                          refine lv_topi (fun x_168 e_168 => ?_)
                          obtain rfl : x_168 = Tq.1 2 j := e_168.trans (by first | (simp only [nI_clamp (show j < 2 ^ 31 by omega)]; done) | rfl | (simp only [nI_clamp (show j < 2 ^ 31 by omega)]; rfl) | (simp only [nI_clamp (show j < 2 ^ 31 by omega)]; simp [sI, sN]; done))
                          refine lv_topi (fun x_168 e_168 => ?_)
                          obtain rfl : x_168 = nI (encm Mq j) := e_168.trans (hTq.m (by omega))
                          refine lv_sipush (v := 8191) hx hb dL_archived_169 (by decide) ?_
                          refine lv_icmp_le (tgt := 179) hx hb dL_archived_172 (by decide) (fun c_172 => ?_) (fun c_172 => ?_)
                          · have c_172 : encm Mq j ≤ 8191 := (nI_leI (a := encm Mq j) (b := 8191) (by omega) (by omega)).mp c_172
                            have s_172 : Mq.1 8 j = 0 := hej.2.2.2.2.2.mp (by omega)
                            refine lv_iconst (v := 0) hx hb dL_archived_179 (by decide) ?_
                            exact W.eq (congrArg (fun z => F0 m 180 ls (.int z :: [])) (bI_f (by rw [show rpJ Mq q j = false by rw [rpJ, decide_eq_false (by omega), c_162, s_172]; simp, Bool.and_false, Bool.and_false, Bool.and_false]))) (M_180 _ _ X)
                          · have c_172 : ¬ encm Mq j ≤ 8191 := fun h => c_172 ((nI_leI (a := encm Mq j) (b := 8191) (by omega) (by omega)).mpr h)
                            have s_172 : Mq.1 8 j ≠ 0 := fun z => absurd (hej.2.2.2.2.2.mpr z) (by omega)
                            exact M_175 _ _ X (by rw [rpJ, decide_eq_true (p := Mq.1 8 j ≠ 0) s_172, Bool.or_true, Bool.or_true])
                    refine lv_iload hx hb dL_archived_108 (lv_at hl 0 rfl) ?_
                    refine lv_aload hx hb dL_archived_110 (lv_at hl 8 rfl) ?_
                    refine lv_iconst (v := 4) hx hb dL_archived_112 (by decide) ?_
                    refine k_ild (ad := ad) (k := 17) (i := 10) Z X ct_17_10 (vp_in_nI (n := 4) (by first | assumption | omega) (by decide)) dL_archived_113 ?_
                    refine lv_topi (fun x_113 e_113 => ?_)
                    obtain rfl : x_113 = Tq.1 11 4 := e_113.trans (by first | (simp only [nI_clamp (show 4 < 2 ^ 31 by omega)]; done) | rfl | (simp only [nI_clamp (show 4 < 2 ^ 31 by omega)]; rfl) | (simp only [nI_clamp (show 4 < 2 ^ 31 by omega)]; simp [sI, sN]; done))
                    refine lv_topi (fun x_113 e_113 => ?_)
                    obtain rfl : x_113 = nI (Mq.2 0 3) := e_113.trans (hTq.g4)
                    refine lv_icmp_ge (tgt := 138) hx hb dL_archived_114 (by decide) (fun c_114 => ?_) (fun c_114 => ?_)
                    · have c_114 : Mq.2 0 3 ≤ j := (nI_leI (a := Mq.2 0 3) (b := j) (by omega) (by omega)).mp c_114
                      exact M_138 _ _ X (by rw [tkJ, decide_eq_true c_114, Bool.true_or])
                    · have c_114 : ¬ Mq.2 0 3 ≤ j := fun h => c_114 ((nI_leI (a := Mq.2 0 3) (b := j) (by omega) (by omega)).mpr h)
                      have htj := hTq.tt hNq (j := j) (by omega)
                      have hmj4 := (hNq.2.2.2.2.2.2 j (by omega)).1
                      have htj1 := htj.1
                      refine lv_aload_n hx hb dL_archived_117 rfl (lv_at hl 7 rfl) ?_
                      refine lv_iload hx hb dL_archived_118 (lv_at hl 0 rfl) ?_
                      refine k_ild (ad := ad) (k := 17) (i := 8) Z X ct_17_8 (vp_in_nI (n := j) (by first | assumption | omega) (by decide)) dL_archived_120 ?_
                      refine lv_topi (fun x_120 e_120 => ?_)
                      obtain rfl : x_120 = Tq.1 9 j := e_120.trans (by first | (simp only [nI_clamp (show j < 2 ^ 31 by omega)]; done) | rfl | (simp only [nI_clamp (show j < 2 ^ 31 by omega)]; rfl) | (simp only [nI_clamp (show j < 2 ^ 31 by omega)]; simp [sI, sN]; done))
                      refine lv_topi (fun x_120 e_120 => ?_)
                      obtain rfl : x_120 = nI (enct Mq j) := e_120.trans (hTq.t (by omega))
                      refine lv_bipush (v := 64) hx hb dL_archived_121 (by decide) ?_
                      refine lv_irem hx hb dL_archived_123 (by decide) ?_
                      refine lv_topi (fun x_123 e_123 => ?_)
                      obtain rfl : x_123 = nI (Mq.2 4 j) := e_123.trans ((pk_rem (a := (enct Mq j)) (d := 64) (by have := (hTq.tt hNq (j := j) (by omega)).1; omega) (by omega) (by omega)).trans (congrArg nI (hTq.tt hNq (j := j) (by omega)).2.1))
                      refine lv_iload hx hb dL_archived_124 (lv_at hl 2 rfl) ?_
                      refine lv_icmp_ne (tgt := 138) hx hb dL_archived_126 (by decide) (fun c_126 => ?_) (fun c_126 => ?_)
                      · have c_126 : ¬ Mq.2 4 j = q := fun h => c_126 ((nI_eq (a := Mq.2 4 j) (b := q) (by omega) (by omega)).mpr h)
                        exact M_138 _ _ X (by rw [tkJ, decide_eq_true (p := Mq.2 4 j ≠ q) c_126, Bool.true_or, Bool.or_true])
                      · have c_126 : Mq.2 4 j = q := (nI_eq (a := Mq.2 4 j) (b := q) (by omega) (by omega)).mp c_126
                        refine lv_aload_n hx hb dL_archived_129 rfl (lv_at hl 7 rfl) ?_
                        refine lv_iload hx hb dL_archived_130 (lv_at hl 0 rfl) ?_
                        refine k_ild (ad := ad) (k := 17) (i := 8) Z X ct_17_8 (vp_in_nI (n := j) (by first | assumption | omega) (by decide)) dL_archived_132 ?_
                        refine lv_topi (fun x_132 e_132 => ?_)
                        obtain rfl : x_132 = Tq.1 9 j := e_132.trans (by first | (simp only [nI_clamp (show j < 2 ^ 31 by omega)]; done) | rfl | (simp only [nI_clamp (show j < 2 ^ 31 by omega)]; rfl) | (simp only [nI_clamp (show j < 2 ^ 31 by omega)]; simp [sI, sN]; done))
                        refine lv_topi (fun x_132 e_132 => ?_)
                        obtain rfl : x_132 = nI (enct Mq j) := e_132.trans (hTq.t (by omega))
                        refine lv_ldc (v := 131071) hx hb Z.1.2.2.2.1 (Z.1.2.2.2.2 _ (inU_28 _ (List.mem_of_getElem? (i := 4) rfl))) dL_archived_133 ?_
                        refine lv_icmp_le (tgt := 179) hx hb dL_archived_135 (by decide) (fun c_135 => ?_) (fun c_135 => ?_)
                        · have c_135 : enct Mq j ≤ 131071 := (nI_leI (a := enct Mq j) (b := 131071) (by omega) (by omega)).mp c_135
                          have s_135 : Mq.1 14 j = 0 := htj.2.2.2.2.2.2.mp (by omega)
                          refine lv_iconst (v := 0) hx hb dL_archived_179 (by decide) ?_
                          exact W.eq (congrArg (fun z => F0 m 180 ls (.int z :: [])) (bI_f (by rw [show tkJ Mq q j = false by rw [tkJ, decide_eq_false (by omega), c_126, s_135]; simp, Bool.false_and, Bool.and_false, Bool.and_false]))) (M_180 _ _ X)
                        · have c_135 : ¬ enct Mq j ≤ 131071 := fun h => c_135 ((nI_leI (a := enct Mq j) (b := 131071) (by omega) (by omega)).mpr h)
                          have s_135 : Mq.1 14 j ≠ 0 := fun z => absurd (htj.2.2.2.2.2.2.mpr z) (by omega)
                          exact M_138 _ _ X (by rw [tkJ, decide_eq_true (p := Mq.1 14 j ≠ 0) s_135, Bool.or_true, Bool.or_true])
                  refine lv_iload hx hb dL_archived_78 (lv_at hl 0 rfl) ?_
                  refine lv_aload hx hb dL_archived_80 (lv_at hl 8 rfl) ?_
                  refine lv_iconst (v := 3) hx hb dL_archived_82 (by decide) ?_
                  refine k_ild (ad := ad) (k := 17) (i := 10) Z X ct_17_10 (vp_in_nI (n := 3) (by first | assumption | omega) (by decide)) dL_archived_83 ?_
                  refine lv_topi (fun x_83 e_83 => ?_)
                  obtain rfl : x_83 = Tq.1 11 3 := e_83.trans (by first | (simp only [nI_clamp (show 3 < 2 ^ 31 by omega)]; done) | rfl | (simp only [nI_clamp (show 3 < 2 ^ 31 by omega)]; rfl) | (simp only [nI_clamp (show 3 < 2 ^ 31 by omega)]; simp [sI, sN]; done))
                  refine lv_topi (fun x_83 e_83 => ?_)
                  obtain rfl : x_83 = nI (Mq.2 0 2) := e_83.trans (hTq.g3)
                  refine lv_icmp_ge (tgt := 108) hx hb dL_archived_84 (by decide) (fun c_84 => ?_) (fun c_84 => ?_)
                  · have c_84 : Mq.2 0 2 ≤ j := (nI_leI (a := Mq.2 0 2) (b := j) (by omega) (by omega)).mp c_84
                    exact M_108 _ _ X (by rw [spJ, decide_eq_true c_84, Bool.true_or])
                  · have c_84 : ¬ Mq.2 0 2 ≤ j := fun h => c_84 ((nI_leI (a := Mq.2 0 2) (b := j) (by omega) (by omega)).mpr h)
                    have hsj := hTq.ss hNq (j := j) (by omega)
                    have hmj := hNq.2.2.2.2.2.1 j (by omega)
                    have hsj1 := hsj.1
                    refine lv_aload_n hx hb dL_archived_87 rfl (lv_at hl 6 rfl) ?_
                    refine lv_iload hx hb dL_archived_88 (lv_at hl 0 rfl) ?_
                    refine k_ild (ad := ad) (k := 17) (i := 6) Z X ct_17_6 (vp_in_nI (n := j) (by first | assumption | omega) (by decide)) dL_archived_90 ?_
                    refine lv_topi (fun x_90 e_90 => ?_)
                    obtain rfl : x_90 = Tq.1 7 j := e_90.trans (by first | (simp only [nI_clamp (show j < 2 ^ 31 by omega)]; done) | rfl | (simp only [nI_clamp (show j < 2 ^ 31 by omega)]; rfl) | (simp only [nI_clamp (show j < 2 ^ 31 by omega)]; simp [sI, sN]; done))
                    refine lv_topi (fun x_90 e_90 => ?_)
                    obtain rfl : x_90 = nI (encs Mq j) := e_90.trans (hTq.s (by omega))
                    refine lv_bipush (v := 64) hx hb dL_archived_91 (by decide) ?_
                    refine lv_irem hx hb dL_archived_93 (by decide) ?_
                    refine lv_topi (fun x_93 e_93 => ?_)
                    obtain rfl : x_93 = nI (Mq.2 3 j) := e_93.trans ((pk_rem (a := (encs Mq j)) (d := 64) (by have := (hTq.ss hNq (j := j) (by omega)).1; omega) (by omega) (by omega)).trans (congrArg nI (hTq.ss hNq (j := j) (by omega)).2.1))
                    refine lv_iload hx hb dL_archived_94 (lv_at hl 2 rfl) ?_
                    refine lv_icmp_ne (tgt := 108) hx hb dL_archived_96 (by decide) (fun c_96 => ?_) (fun c_96 => ?_)
                    · have c_96 : ¬ Mq.2 3 j = q := fun h => c_96 ((nI_eq (a := Mq.2 3 j) (b := q) (by omega) (by omega)).mpr h)
                      exact M_108 _ _ X (by rw [spJ, decide_eq_true (p := Mq.2 3 j ≠ q) c_96, Bool.true_or, Bool.or_true])
                    · have c_96 : Mq.2 3 j = q := (nI_eq (a := Mq.2 3 j) (b := q) (by omega) (by omega)).mp c_96
                      refine lv_aload_n hx hb dL_archived_99 rfl (lv_at hl 6 rfl) ?_
                      refine lv_iload hx hb dL_archived_100 (lv_at hl 0 rfl) ?_
                      refine k_ild (ad := ad) (k := 17) (i := 6) Z X ct_17_6 (vp_in_nI (n := j) (by first | assumption | omega) (by decide)) dL_archived_102 ?_
                      refine lv_topi (fun x_102 e_102 => ?_)
                      obtain rfl : x_102 = Tq.1 7 j := e_102.trans (by first | (simp only [nI_clamp (show j < 2 ^ 31 by omega)]; done) | rfl | (simp only [nI_clamp (show j < 2 ^ 31 by omega)]; rfl) | (simp only [nI_clamp (show j < 2 ^ 31 by omega)]; simp [sI, sN]; done))
                      refine lv_topi (fun x_102 e_102 => ?_)
                      obtain rfl : x_102 = nI (encs Mq j) := e_102.trans (hTq.s (by omega))
                      refine lv_ldc (v := 65535) hx hb Z.1.2.2.2.1 (Z.1.2.2.2.2 _ (inU_28 _ (List.mem_of_getElem? (i := 3) rfl))) dL_archived_103 ?_
                      refine lv_icmp_le (tgt := 179) hx hb dL_archived_105 (by decide) (fun c_105 => ?_) (fun c_105 => ?_)
                      · have c_105 : encs Mq j ≤ 65535 := (nI_leI (a := encs Mq j) (b := 65535) (by omega) (by omega)).mp c_105
                        have s_105 : Mq.1 12 j = 0 := hsj.2.2.2.1.mp (by omega)
                        refine lv_iconst (v := 0) hx hb dL_archived_179 (by decide) ?_
                        exact W.eq (congrArg (fun z => F0 m 180 ls (.int z :: [])) (bI_f (by rw [show spJ Mq q j = false by rw [spJ, decide_eq_false (by omega), c_96, s_105]; simp, Bool.false_and, Bool.and_false]))) (M_180 _ _ X)
                      · have c_105 : ¬ encs Mq j ≤ 65535 := fun h => c_105 ((nI_leI (a := encs Mq j) (b := 65535) (by omega) (by omega)).mpr h)
                        have s_105 : Mq.1 12 j ≠ 0 := fun z => absurd (hsj.2.2.2.1.mpr z) (by omega)
                        exact M_108 _ _ X (by rw [spJ, decide_eq_true (p := Mq.1 12 j ≠ 0) s_105, Bool.or_true, Bool.or_true])
          exact LOOP_66 31 0 (by decide) (by omega) _ _ _ X (lv_sub hl [0, 1, 2, 3, 4, 5, 6, 7, 8, 9] rfl)
        refine lv_aload_n hx hb dL_archived_16 rfl (lv_at hl 2 rfl) ?_
        refine lv_iload hx hb dL_archived_17 (lv_at hl 0 rfl) ?_
        refine k_ild (ad := ad) (k := 17) (i := 1) Z X ct_17_1 (vp_in_nI (n := q) (by first | assumption | omega) (by decide)) dL_archived_19 ?_
        refine lv_topi (fun x_19 e_19 => ?_)
        obtain rfl : x_19 = Tq.1 2 q := e_19.trans (by first | (simp only [nI_clamp (show q < 2 ^ 31 by omega)]; done) | rfl | (simp only [nI_clamp (show q < 2 ^ 31 by omega)]; rfl) | (simp only [nI_clamp (show q < 2 ^ 31 by omega)]; simp [sI, sN]; done))
        refine lv_topi (fun x_19 e_19 => ?_)
        obtain rfl : x_19 = nI (encm Mq q) := e_19.trans (hTq.m (by omega))
        refine lv_sipush (v := 8192) hx hb dL_archived_20 (by decide) ?_
        refine lv_icmp_ge (tgt := 60) hx hb dL_archived_23 (by decide) (fun c_23 => ?_) (fun c_23 => ?_)
        · have c_23 : 8192 ≤ encm Mq q := (nI_leI (a := 8192) (b := encm Mq q) (by omega) (by omega)).mp c_23
          have s_23 : ¬ Mq.1 8 q = 0 := fun z => absurd (hem6.mpr z) (by omega)
          refine lv_iconst (v := 0) hx hb dL_archived_60 (by decide) ?_
          exact W.eq (congrArg (fun z => F0 m 61 ls (.int z :: [])) (bI_f (by unfold cA; simp only [s_23, decide_true, decide_false, Bool.and_true, Bool.true_and, Bool.false_and, Bool.and_false, not_false_eq_true, not_true_eq_false]))) (M_61 _ _ X)
        · have c_23 : ¬ 8192 ≤ encm Mq q := fun h => c_23 ((nI_leI (a := 8192) (b := encm Mq q) (by omega) (by omega)).mpr h)
          have s_23 : Mq.1 8 q = 0 := hem6.mp (by omega)
          refine lv_aload_n hx hb dL_archived_26 rfl (lv_at hl 2 rfl) ?_
          refine lv_iload hx hb dL_archived_27 (lv_at hl 0 rfl) ?_
          refine k_ild (ad := ad) (k := 17) (i := 1) Z X ct_17_1 (vp_in_nI (n := q) (by first | assumption | omega) (by decide)) dL_archived_29 ?_
          refine lv_topi (fun x_29 e_29 => ?_)
          obtain rfl : x_29 = Tq.1 2 q := e_29.trans (by first | (simp only [nI_clamp (show q < 2 ^ 31 by omega)]; done) | rfl | (simp only [nI_clamp (show q < 2 ^ 31 by omega)]; rfl) | (simp only [nI_clamp (show q < 2 ^ 31 by omega)]; simp [sI, sN]; done))
          refine lv_topi (fun x_29 e_29 => ?_)
          obtain rfl : x_29 = nI (encm Mq q) := e_29.trans (hTq.m (by omega))
          refine lv_bipush (v := 16) hx hb dL_archived_30 (by decide) ?_
          refine lv_idiv hx hb dL_archived_32 (by decide) ?_
          refine lv_topi (fun x_32 e_32 => ?_)
          obtain rfl : x_32 = nI ((encm Mq q) / 16) := e_32.trans ((pk_div (a := (encm Mq q)) (d := 16) (by have := (hTq.mm hNq (j := q) (by omega)).1; omega) (by omega) (by omega)))
          refine lv_bipush (v := 8) hx hb dL_archived_33 (by decide) ?_
          refine lv_irem hx hb dL_archived_35 (by decide) ?_
          refine lv_topi (fun x_35 e_35 => ?_)
          obtain rfl : x_35 = nI (Mq.2 2 q) := e_35.trans ((pk_rem (a := ((encm Mq q) / 16)) (d := 8) (by have := (hTq.mm hNq (j := q) (by omega)).1; omega) (by omega) (by omega)).trans (congrArg nI (hTq.mm hNq (j := q) (by omega)).2.2.1))
          refine lv_iload hx hb dL_archived_36 (lv_at hl 7 rfl) ?_
          refine lv_icmp_ne (tgt := 60) hx hb dL_archived_38 (by decide) (fun c_38 => ?_) (fun c_38 => ?_)
          · have c_38 : ¬ Mq.2 2 q = ch := fun h => c_38 ((nI_eq (a := Mq.2 2 q) (b := ch) (by omega) (by omega)).mpr h)
            have s_38 := c_38
            refine lv_iconst (v := 0) hx hb dL_archived_60 (by decide) ?_
            exact W.eq (congrArg (fun z => F0 m 61 ls (.int z :: [])) (bI_f (by unfold cA; simp only [s_23, s_38, decide_true, decide_false, Bool.and_true, Bool.true_and, Bool.false_and, Bool.and_false, not_false_eq_true, not_true_eq_false]))) (M_61 _ _ X)
          · have c_38 : Mq.2 2 q = ch := (nI_eq (a := Mq.2 2 q) (b := ch) (by omega) (by omega)).mp c_38
            have s_38 := c_38
            refine lv_aload hx hb dL_archived_41 (lv_at hl 6 rfl) ?_
            refine lv_iconst (v := 0) hx hb dL_archived_43 (by decide) ?_
            refine k_ild (ad := ad) (k := 17) (i := 10) Z X ct_17_10 (vp_in_nI (n := 0) (by first | assumption | omega) (by decide)) dL_archived_44 ?_
            refine lv_topi (fun x_44 e_44 => ?_)
            obtain rfl : x_44 = Tq.1 11 0 := e_44.trans (by first | (simp only [nI_clamp (show 0 < 2 ^ 31 by omega)]; done) | rfl | (simp only [nI_clamp (show 0 < 2 ^ 31 by omega)]; rfl) | (simp only [nI_clamp (show 0 < 2 ^ 31 by omega)]; simp [sI, sN]; done))
            refine lv_topi (fun x_44 e_44 => ?_)
            obtain rfl : x_44 = nI hr9 := e_44.trans (hTq.g0.trans heq)
            refine lv_aload_n hx hb dL_archived_45 rfl (lv_at hl 3 rfl) ?_
            refine lv_iload hx hb dL_archived_46 (lv_at hl 0 rfl) ?_
            refine k_ild (ad := ad) (k := 17) (i := 3) Z X ct_17_3 (vp_in_nI (n := q) (by first | assumption | omega) (by decide)) dL_archived_48 ?_
            refine lv_topi (fun x_48 e_48 => ?_)
            obtain rfl : x_48 = Tq.1 4 q := e_48.trans (by first | (simp only [nI_clamp (show q < 2 ^ 31 by omega)]; done) | rfl | (simp only [nI_clamp (show q < 2 ^ 31 by omega)]; rfl) | (simp only [nI_clamp (show q < 2 ^ 31 by omega)]; simp [sI, sN]; done))
            refine lv_topi (fun x_48 e_48 => ?_)
            obtain rfl : x_48 = nI hp := e_48.trans ((hTq.h (by omega)).trans ehp)
            refine lv_sipush (v := 720) hx hb dL_archived_49 (by decide) ?_
            refine lv_iadd hx hb dL_archived_52 ?_
            refine lv_topi (fun x_52 e_52 => ?_)
            obtain rfl : x_52 = nI (hp + 720) := e_52.trans (nI_add hp 720)
            refine lv_icmp_lt (tgt := 60) hx hb dL_archived_53 (by decide) (fun c_53 => ?_) (fun c_53 => ?_)
            · have c_53 : hr9 < hp + 720 := (nI_ltI (a := hr9) (b := hp + 720) (by omega) (by omega)).mp c_53
              have s_53 : Mq.1 0 0 - Mq.1 6 q < 720 := by rw [heq, ehp]; exact (sub720 (by omega) (by omega)).mpr (by omega)
              refine lv_iconst (v := 0) hx hb dL_archived_60 (by decide) ?_
              exact W.eq (congrArg (fun z => F0 m 61 ls (.int z :: [])) (bI_f (by unfold cA; simp only [s_23, s_38, s_53, decide_true, decide_false, Bool.and_true, Bool.true_and, Bool.false_and, Bool.and_false, not_false_eq_true, not_true_eq_false]))) (M_61 _ _ X)
            · have c_53 : ¬ hr9 < hp + 720 := fun h => c_53 ((nI_ltI (a := hr9) (b := hp + 720) (by omega) (by omega)).mpr h)
              have s_53 : ¬ Mq.1 0 0 - Mq.1 6 q < 720 := by rw [heq, ehp]; exact fun z => absurd ((sub720 (by omega) (by omega)).mp z) (by omega)
              refine lv_iconst (v := 1) hx hb dL_archived_56 (by decide) ?_
              refine lv_goto (tgt := 61) hx hb dL_archived_57 (by decide) ?_
              exact W.eq (congrArg (fun z => F0 m 61 ls (.int z :: [])) (bI_t (by unfold cA; simp only [s_23, s_38, s_53, decide_true, decide_false, Bool.and_true, Bool.true_and, Bool.false_and, Bool.and_false, not_false_eq_true, not_true_eq_false]))) (M_61 _ _ X)
  exact LOOP_11 (M.2 0 1 + 1) (M.2 0 1) M T 0 (Nat.le_refl _) rfl (Nat.zero_add _) hT rfl he rfl (by omega) _ _ _ X (lv_sub hl [0, 1, 2, 3, 4, 5, 6, 7] rfl)
