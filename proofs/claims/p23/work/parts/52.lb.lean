/-! THE LAW'S isApproved -/
def ldN (S : kSt) (kd : Nat → Int32) (a : Nat) : Nat → Nat
  | 0 => 0
  | n + 1 => ldN S kd a n + (if (isY S kd a n && decide (S.1 1 n = 2)) = true then 1 else 0)
def yyB (S : kSt) (kd : Nat → Int32) (a u : Nat) : Bool := decide (kd u = 0) && (!gone S u && decide (u ≠ a))
theorem isY_yy {S : kSt} {kd : Nat → Int32} {a u : Nat} (h : yyB S kd a u = false) : isY S kd a u = false := by
  cases e : isY S kd a u with
  | false => rfl
  | true =>
    simp only [isY, cnts, Bool.and_eq_true, decide_eq_true_eq, Bool.not_eq_true'] at e
    obtain ⟨⟨-, e1, -⟩, e2, -, e3⟩ := e
    rw [yyB, decide_eq_true e2, e1, decide_eq_true e3] at h
    exact absurd h (by decide)
theorem isY_of {S : kSt} {kd : Nat → Int32} {a u : Nat} (h : yyB S kd a u = true) (h2 : ¬ S.1 1 u < 2) : isY S kd a u = true := by
  simp only [yyB, Bool.and_eq_true, decide_eq_true_eq, Bool.not_eq_true'] at h
  obtain ⟨e1, e2, e3⟩ := h
  have h0 : S.1 1 u ≠ 0 := fun z => h2 (by rw [z]; decide)
  simp only [isY, cnts, Bool.and_eq_true, decide_eq_true_eq, Bool.not_eq_true']
  exact ⟨⟨by rw [e1]; decide, e2, h0⟩, e1, h2, e3⟩
theorem ldN_le (S : kSt) (kd : Nat → Int32) (a : Nat) : ∀ n, ldN S kd a n ≤ n
  | 0 => Nat.le_refl _
  | n + 1 => by have := ldN_le S kd a n; simp only [ldN]; split <;> omega
theorem yes_ld {M A : kSt} (h : LT M A) (kd : Nat → Int32) (a : Nat) : ∀ n, n ≤ M.2 0 0 → yesN M kd a n = ldN M kd a n + chfN M kd a n
  | 0, _ => rfl
  | n + 1, hn => by
    have ih := yes_ld h kd a n (by omega)
    simp only [yesN, ldN, chfN]
    cases e : isY M kd a n with
    | false => simp [ih]
    | true =>
      have e2 : ¬ M.1 1 n < 2 := by
        simp only [isY, Bool.and_eq_true, decide_eq_true_eq] at e
        exact e.2.2.1
      obtain ⟨r, r1, r2⟩ := (h.2.2.1 n (by omega)).2.2.1
      rw [r2] at e2 ⊢
      match r, r1 with
      | 0, _ => exact absurd (show nI 0 < 2 by decide) e2
      | 1, _ => exact absurd (show nI 1 < 2 by decide) e2
      | 2, _ => simp only [show nI 2 = 2 from rfl, ih]; simp; omega
      | 3, _ => simp only [show nI 3 = 3 from rfl, ih]; simp; omega
theorem dL_isApproved_0 : decode cL_isApproved 0 = .ok (.iconst 0, 1) := by decide +kernel
theorem dL_isApproved_1 : decode cL_isApproved 1 = .ok (.istore 6, 2) := by decide +kernel
theorem dL_isApproved_3 : decode cL_isApproved 3 = .ok (.iconst 0, 1) := by decide +kernel
theorem dL_isApproved_4 : decode cL_isApproved 4 = .ok (.istore 7, 2) := by decide +kernel
theorem dL_isApproved_6 : decode cL_isApproved 6 = .ok (.iconst 0, 1) := by decide +kernel
theorem dL_isApproved_7 : decode cL_isApproved 7 = .ok (.istore 8, 2) := by decide +kernel
theorem dL_isApproved_9 : decode cL_isApproved 9 = .ok (.iload 8, 2) := by decide +kernel
theorem dL_isApproved_11 : decode cL_isApproved 11 = .ok (.aload_n 3, 1) := by decide +kernel
theorem dL_isApproved_12 : decode cL_isApproved 12 = .ok (.iconst 1, 1) := by decide +kernel
theorem dL_isApproved_13 : decode cL_isApproved 13 = .ok (.iaload, 1) := by decide +kernel
theorem dL_isApproved_14 : decode cL_isApproved 14 = .ok (.if_icmp .ge 100, 3) := by decide +kernel
theorem dL_isApproved_17 : decode cL_isApproved 17 = .ok (.aload_n 2, 1) := by decide +kernel
theorem dL_isApproved_18 : decode cL_isApproved 18 = .ok (.iload 4, 2) := by decide +kernel
theorem dL_isApproved_20 : decode cL_isApproved 20 = .ok (.iaload, 1) := by decide +kernel
theorem dL_isApproved_21 : decode cL_isApproved 21 = .ok (.iconst 3, 1) := by decide +kernel
theorem dL_isApproved_22 : decode cL_isApproved 22 = .ok (.iload 8, 2) := by decide +kernel
theorem dL_isApproved_24 : decode cL_isApproved 24 = .ok (.imul, 1) := by decide +kernel
theorem dL_isApproved_25 : decode cL_isApproved 25 = .ok (.ishr, 1) := by decide +kernel
theorem dL_isApproved_26 : decode cL_isApproved 26 = .ok (.bipush 7, 2) := by decide +kernel
theorem dL_isApproved_28 : decode cL_isApproved 28 = .ok (.iand, 1) := by decide +kernel
theorem dL_isApproved_29 : decode cL_isApproved 29 = .ok (.iconst 1, 1) := by decide +kernel
theorem dL_isApproved_30 : decode cL_isApproved 30 = .ok (.if_icmp .ne 29, 3) := by decide +kernel
theorem dL_isApproved_33 : decode cL_isApproved 33 = .ok (.aload_n 0, 1) := by decide +kernel
theorem dL_isApproved_34 : decode cL_isApproved 34 = .ok (.aload_n 3, 1) := by decide +kernel
theorem dL_isApproved_35 : decode cL_isApproved 35 = .ok (.iload 8, 2) := by decide +kernel
theorem dL_isApproved_37 : decode cL_isApproved 37 = .ok (.invokestatic 79, 3) := by decide +kernel
theorem dL_isApproved_40 : decode cL_isApproved 40 = .ok (.ifCond .ne 19, 3) := by decide +kernel
theorem dL_isApproved_43 : decode cL_isApproved 43 = .ok (.iload 8, 2) := by decide +kernel
theorem dL_isApproved_45 : decode cL_isApproved 45 = .ok (.aload_n 1, 1) := by decide +kernel
theorem dL_isApproved_46 : decode cL_isApproved 46 = .ok (.iload 4, 2) := by decide +kernel
theorem dL_isApproved_48 : decode cL_isApproved 48 = .ok (.iaload, 1) := by decide +kernel
theorem dL_isApproved_49 : decode cL_isApproved 49 = .ok (.bipush 16, 2) := by decide +kernel
theorem dL_isApproved_51 : decode cL_isApproved 51 = .ok (.irem, 1) := by decide +kernel
theorem dL_isApproved_52 : decode cL_isApproved 52 = .ok (.if_icmp .eq 7, 3) := by decide +kernel
theorem dL_isApproved_55 : decode cL_isApproved 55 = .ok (.iconst 1, 1) := by decide +kernel
theorem dL_isApproved_56 : decode cL_isApproved 56 = .ok (.goto 4, 3) := by decide +kernel
theorem dL_isApproved_59 : decode cL_isApproved 59 = .ok (.iconst 0, 1) := by decide +kernel
theorem dL_isApproved_60 : decode cL_isApproved 60 = .ok (.istore 9, 2) := by decide +kernel
theorem dL_isApproved_62 : decode cL_isApproved 62 = .ok (.iload 6, 2) := by decide +kernel
theorem dL_isApproved_64 : decode cL_isApproved 64 = .ok (.iload 9, 2) := by decide +kernel
theorem dL_isApproved_66 : decode cL_isApproved 66 = .ok (.ifCond .eq 15, 3) := by decide +kernel
theorem dL_isApproved_69 : decode cL_isApproved 69 = .ok (.aload_n 0, 1) := by decide +kernel
theorem dL_isApproved_70 : decode cL_isApproved 70 = .ok (.iload 8, 2) := by decide +kernel
theorem dL_isApproved_72 : decode cL_isApproved 72 = .ok (.iaload, 1) := by decide +kernel
theorem dL_isApproved_73 : decode cL_isApproved 73 = .ok (.iconst 2, 1) := by decide +kernel
theorem dL_isApproved_74 : decode cL_isApproved 74 = .ok (.if_icmp .ne 7, 3) := by decide +kernel
theorem dL_isApproved_77 : decode cL_isApproved 77 = .ok (.iconst 1, 1) := by decide +kernel
theorem dL_isApproved_78 : decode cL_isApproved 78 = .ok (.goto 4, 3) := by decide +kernel
theorem dL_isApproved_81 : decode cL_isApproved 81 = .ok (.iconst 0, 1) := by decide +kernel
theorem dL_isApproved_82 : decode cL_isApproved 82 = .ok (.iadd, 1) := by decide +kernel
theorem dL_isApproved_83 : decode cL_isApproved 83 = .ok (.istore 6, 2) := by decide +kernel
theorem dL_isApproved_85 : decode cL_isApproved 85 = .ok (.iload 7, 2) := by decide +kernel
theorem dL_isApproved_87 : decode cL_isApproved 87 = .ok (.iload 9, 2) := by decide +kernel
theorem dL_isApproved_89 : decode cL_isApproved 89 = .ok (.ifCond .eq 15, 3) := by decide +kernel
theorem dL_isApproved_92 : decode cL_isApproved 92 = .ok (.aload_n 0, 1) := by decide +kernel
theorem dL_isApproved_93 : decode cL_isApproved 93 = .ok (.iload 8, 2) := by decide +kernel
theorem dL_isApproved_95 : decode cL_isApproved 95 = .ok (.iaload, 1) := by decide +kernel
theorem dL_isApproved_96 : decode cL_isApproved 96 = .ok (.iconst 3, 1) := by decide +kernel
theorem dL_isApproved_97 : decode cL_isApproved 97 = .ok (.if_icmp .ne 7, 3) := by decide +kernel
theorem dL_isApproved_100 : decode cL_isApproved 100 = .ok (.iconst 1, 1) := by decide +kernel
theorem dL_isApproved_101 : decode cL_isApproved 101 = .ok (.goto 4, 3) := by decide +kernel
theorem dL_isApproved_104 : decode cL_isApproved 104 = .ok (.iconst 0, 1) := by decide +kernel
theorem dL_isApproved_105 : decode cL_isApproved 105 = .ok (.iadd, 1) := by decide +kernel
theorem dL_isApproved_106 : decode cL_isApproved 106 = .ok (.istore 7, 2) := by decide +kernel
theorem dL_isApproved_108 : decode cL_isApproved 108 = .ok (.iinc 8 1, 3) := by decide +kernel
theorem dL_isApproved_111 : decode cL_isApproved 111 = .ok (.goto (-102), 3) := by decide +kernel
theorem dL_isApproved_114 : decode cL_isApproved 114 = .ok (.iload 5, 2) := by decide +kernel
theorem dL_isApproved_116 : decode cL_isApproved 116 = .ok (.sipush 1000, 3) := by decide +kernel
theorem dL_isApproved_119 : decode cL_isApproved 119 = .ok (.if_icmp .le 28, 3) := by decide +kernel
theorem dL_isApproved_122 : decode cL_isApproved 122 = .ok (.iload 7, 2) := by decide +kernel
theorem dL_isApproved_124 : decode cL_isApproved 124 = .ok (.iconst 1, 1) := by decide +kernel
theorem dL_isApproved_125 : decode cL_isApproved 125 = .ok (.if_icmp .gt 14, 3) := by decide +kernel
theorem dL_isApproved_128 : decode cL_isApproved 128 = .ok (.iload 7, 2) := by decide +kernel
theorem dL_isApproved_130 : decode cL_isApproved 130 = .ok (.iconst 1, 1) := by decide +kernel
theorem dL_isApproved_131 : decode cL_isApproved 131 = .ok (.if_icmp .ne 12, 3) := by decide +kernel
theorem dL_isApproved_134 : decode cL_isApproved 134 = .ok (.iload 6, 2) := by decide +kernel
theorem dL_isApproved_136 : decode cL_isApproved 136 = .ok (.ifCond .le 7, 3) := by decide +kernel
theorem dL_isApproved_139 : decode cL_isApproved 139 = .ok (.iconst 1, 1) := by decide +kernel
theorem dL_isApproved_140 : decode cL_isApproved 140 = .ok (.goto 20, 3) := by decide +kernel
theorem dL_isApproved_143 : decode cL_isApproved 143 = .ok (.iconst 0, 1) := by decide +kernel
theorem dL_isApproved_144 : decode cL_isApproved 144 = .ok (.goto 16, 3) := by decide +kernel
theorem dL_isApproved_147 : decode cL_isApproved 147 = .ok (.iload 7, 2) := by decide +kernel
theorem dL_isApproved_149 : decode cL_isApproved 149 = .ok (.iload 6, 2) := by decide +kernel
theorem dL_isApproved_151 : decode cL_isApproved 151 = .ok (.iadd, 1) := by decide +kernel
theorem dL_isApproved_152 : decode cL_isApproved 152 = .ok (.ifCond .le 7, 3) := by decide +kernel
theorem dL_isApproved_155 : decode cL_isApproved 155 = .ok (.iconst 1, 1) := by decide +kernel
theorem dL_isApproved_156 : decode cL_isApproved 156 = .ok (.goto 4, 3) := by decide +kernel
theorem dL_isApproved_159 : decode cL_isApproved 159 = .ok (.iconst 0, 1) := by decide +kernel
theorem dL_isApproved_160 : decode cL_isApproved 160 = .ok (.istore 8, 2) := by decide +kernel
theorem dL_isApproved_162 : decode cL_isApproved 162 = .ok (.iload 8, 2) := by decide +kernel
theorem dL_isApproved_164 : decode cL_isApproved 164 = .ok (.ifCond .eq 19, 3) := by decide +kernel
theorem dL_isApproved_167 : decode cL_isApproved 167 = .ok (.aload_n 0, 1) := by decide +kernel
theorem dL_isApproved_168 : decode cL_isApproved 168 = .ok (.aload_n 2, 1) := by decide +kernel
theorem dL_isApproved_169 : decode cL_isApproved 169 = .ok (.aload_n 3, 1) := by decide +kernel
theorem dL_isApproved_170 : decode cL_isApproved 170 = .ok (.iload 4, 2) := by decide +kernel
theorem dL_isApproved_172 : decode cL_isApproved 172 = .ok (.iconst 2, 1) := by decide +kernel
theorem dL_isApproved_173 : decode cL_isApproved 173 = .ok (.invokestatic 85, 3) := by decide +kernel
theorem dL_isApproved_176 : decode cL_isApproved 176 = .ok (.ifCond .ne 7, 3) := by decide +kernel
theorem dL_isApproved_179 : decode cL_isApproved 179 = .ok (.iconst 1, 1) := by decide +kernel
theorem dL_isApproved_180 : decode cL_isApproved 180 = .ok (.goto 4, 3) := by decide +kernel
theorem dL_isApproved_183 : decode cL_isApproved 183 = .ok (.iconst 0, 1) := by decide +kernel
theorem dL_isApproved_184 : decode cL_isApproved 184 = .ok (.ireturn, 1) := by decide +kernel
set_option maxHeartbeats 4000000 in
set_option maxRecDepth 100000 in
theorem c_L_isApproved (l : Launch) (E : State) (G : kG) (S T : kSt) (o : Int64) (ad : kAd) (M : kSt) (hT : LT M T) (hN : okN M) (a : Nat) (x9 : Int32) (ha : a < M.2 0 1) : Met l yL_isApproved (.code yL_isApproved cL_isApproved 10 (some .boolean) :: wsL_law) ({ frames := 4, cells := 0, slots := 0, locals := 120 } : Room) (va_Pc [.ref (ad 17 0), .ref (ad 17 1), .ref (ad 17 4), .ref (ad 17 10), .int (nI a), .int x9] (kPre E G ad (cto G S T o ad))) (kQi E G (fun r ad1 ct1 => r = bI (appr M (kdS M a) (M.2 1 a) (M.2 0 0) x9) ∧ ad = ad1 ∧ ct1 = cto G S T o ad)) 0 0 (kB E.heap.size) := by
  refine Met.ofW (cc := cL_isApproved) (maxL := 10) (ret := (some .boolean)) (by decide) rfl ?_
  intro p e s m args below meth c s₁ B hml hv
  obtain ⟨rfl, hM, hK, hW0⟩ := hv
  have hlocks := B.notSynchronized
  have hr := B.returns
  have Z : kZ p m c cL_isApproved 10 s _ wsL_law RL E G := ⟨⟨B.exec, B.bytes, hml, findClass_of_methodNamed B.named, fun w h => atoms_spec (ws := .code yL_isApproved cL_isApproved 10 (some .boolean) :: wsL_law) B.pre w (List.mem_cons_of_mem _ h)⟩, hM, hK⟩
  have hx := Z.1.1
  have hb := Z.1.2.1
  have X := kX.of hW0
  have hl := lv_entry ([.ref (ad 17 0), .ref (ad 17 1), .ref (ad 17 4), .ref (ad 17 10), .int (nI a), .int x9]) (n := 10) (Nat.le_of_ble_eq_true rfl)
  rw [lg_entry_eq]
  generalize (lg_sl ([.ref (ad 17 0), .ref (ad 17 1), .ref (ad 17 4), .ref (ad 17 10), .int (nI a), .int x9]) ++ List.replicate (10 - (lg_sl ([.ref (ad 17 0), .ref (ad 17 1), .ref (ad 17 4), .ref (ad 17 10), .int (nI a), .int x9])).length) Slot.unset).toArray = ls at hl ⊢
  have hl : lv_has ls 10 [(0, .ref (ad 17 0)), (1, .ref (ad 17 1)), (2, .ref (ad 17 4)), (3, .ref (ad 17 10)), (4, .int (nI a)), (5, .int x9)] := hl
  obtain ⟨hc0, hc1, hc2, hc3⟩ := hT.c
  obtain ⟨dg, hdg, hdx, hdd⟩ := hT.d ha
  refine lv_iconst (v := 0) hx hb dL_isApproved_0 (by decide) ?_
  refine lv_istore (lv' := [(6, .int 0), (0, .ref (ad 17 0)), (1, .ref (ad 17 1)), (2, .ref (ad 17 4)), (3, .ref (ad 17 10)), (4, .int (nI a)), (5, .int x9)]) hx hb dL_isApproved_1 hl (by decide) rfl (fun ls hl => ?_)
  refine lv_iconst (v := 0) hx hb dL_isApproved_3 (by decide) ?_
  refine lv_istore (lv' := [(7, .int 0), (6, .int 0), (0, .ref (ad 17 0)), (1, .ref (ad 17 1)), (2, .ref (ad 17 4)), (3, .ref (ad 17 10)), (4, .int (nI a)), (5, .int x9)]) hx hb dL_isApproved_4 hl (by decide) rfl (fun ls hl => ?_)
  refine lv_iconst (v := 0) hx hb dL_isApproved_6 (by decide) ?_
  refine lv_istore (lv' := [(8, .int 0), (7, .int 0), (6, .int 0), (0, .ref (ad 17 0)), (1, .ref (ad 17 1)), (2, .ref (ad 17 4)), (3, .ref (ad 17 10)), (4, .int (nI a)), (5, .int x9)]) hx hb dL_isApproved_7 hl (by decide) rfl (fun ls hl => ?_)
  have LOOP_9 : ∀ (d : Nat) (i : Nat), i ≤ M.2 0 0 → M.2 0 0 < i + d → ∀ (H : Heap) (locs : List Loc) (ls : Array Slot), kX E G s H locs ad (cto G S T o ad) → lv_has ls 10 [(8, .int (nI i)), (7, .int (nI (chfN M (kdS M a) (M.2 1 a) i))), (6, .int (nI (ldN M (kdS M a) (M.2 1 a) i))), (0, .ref (ad 17 0)), (1, .ref (ad 17 1)), (2, .ref (ad 17 4)), (3, .ref (ad 17 10)), (4, .int (nI a)), (5, .int x9)] → W p l e (headSpec (Cond.code yL_isApproved cL_isApproved 10 (some .boolean) :: wsL_law) ({ frames := 4, cells := 0, slots := 0, locals := 120 } : Room)).room s m ([.ref (ad 17 0), .ref (ad 17 1), .ref (ad 17 4), .ref (ad 17 10), .int (nI a), .int x9] : List Value).toArray below meth c H locs 0 0 (MQ below (kQi E G (fun r ad1 ct1 => r = bI (appr M (kdS M a) (M.2 1 a) (M.2 0 0) x9) ∧ ad = ad1 ∧ ct1 = cto G S T o ad)) ([.ref (ad 17 0), .ref (ad 17 1), .ref (ad 17 4), .ref (ad 17 10), .int (nI a), .int x9] : List Value).toArray s 0 0 (kB E.heap.size)) (F0 m 9 ls []) := by
    intro d
    induction d with
    | zero => intro i h1 h2; intros; exact absurd h2 (by omega)
    | succ d ih =>
      intro i h1 h2 H locs ls X hl
      refine lv_iload hx hb dL_isApproved_9 (lv_at hl 0 rfl) ?_
      refine lv_aload_n hx hb dL_isApproved_11 rfl (lv_at hl 6 rfl) ?_
      refine lv_iconst (v := 1) hx hb dL_isApproved_12 (by decide) ?_
      refine k_ild (ad := ad) (k := 17) (i := 10) Z X ct_17_10 (vp_in_nI (n := 1) (by first | assumption | omega) (by decide)) dL_isApproved_13 ?_
      refine lv_topi (fun x_13 e_13 => ?_)
      obtain rfl : x_13 = T.1 11 1 := e_13.trans (by first | (simp only [nI_clamp (show 1 < 2 ^ 31 by omega)]; done) | rfl | (simp only [nI_clamp (show 1 < 2 ^ 31 by omega)]; rfl) | (simp only [nI_clamp (show 1 < 2 ^ 31 by omega)]; simp [sI, sN]; done))
      refine lv_topi (fun x_13 e_13 => ?_)
      obtain rfl : x_13 = nI (M.2 0 0) := e_13.trans (hT.g1)
      refine lv_icmp_ge (tgt := 114) hx hb dL_isApproved_14 (by decide) (fun c_14 => ?_) (fun c_14 => ?_)
      · have c_14 : M.2 0 0 ≤ i := (nI_leI (a := M.2 0 0) (b := i) (by omega) (by omega)).mp c_14
        have hn : i = M.2 0 0 := by omega
        have hyl := yes_ld hT (kdS M a) (M.2 1 a) (M.2 0 0) (Nat.le_refl _)
        rw [hn] at hl
        have hy1 := ldN_le M (kdS M a) (M.2 1 a) (M.2 0 0)
        have hy2 := chfN_le M (kdS M a) (M.2 1 a) (M.2 0 0)
        have M_160 : ∀ (H : Heap) (locs : List Loc), kX E G s H locs ad (cto G S T o ad) → W p l e (headSpec (Cond.code yL_isApproved cL_isApproved 10 (some .boolean) :: wsL_law) ({ frames := 4, cells := 0, slots := 0, locals := 120 } : Room)).room s m ([.ref (ad 17 0), .ref (ad 17 1), .ref (ad 17 4), .ref (ad 17 10), .int (nI a), .int x9] : List Value).toArray below meth c H locs 0 0 (MQ below (kQi E G (fun r ad1 ct1 => r = bI (appr M (kdS M a) (M.2 1 a) (M.2 0 0) x9) ∧ ad = ad1 ∧ ct1 = cto G S T o ad)) ([.ref (ad 17 0), .ref (ad 17 1), .ref (ad 17 4), .ref (ad 17 10), .int (nI a), .int x9] : List Value).toArray s 0 0 (kB E.heap.size)) (F0 m 160 ls [.int (bI (if 1000 < x9 then decide (1 < (yesN M (kdS M a) (M.2 1 a) (M.2 0 0))) && decide (0 < (chfN M (kdS M a) (M.2 1 a) (M.2 0 0))) else decide (0 < (yesN M (kdS M a) (M.2 1 a) (M.2 0 0)))))]) := by
          intro H locs X
          refine lv_istore (lv' := [(8, .int (bI (if 1000 < x9 then decide (1 < (yesN M (kdS M a) (M.2 1 a) (M.2 0 0))) && decide (0 < (chfN M (kdS M a) (M.2 1 a) (M.2 0 0))) else decide (0 < (yesN M (kdS M a) (M.2 1 a) (M.2 0 0)))))), (7, .int (nI (chfN M (kdS M a) (M.2 1 a) (M.2 0 0)))), (6, .int (nI (ldN M (kdS M a) (M.2 1 a) (M.2 0 0)))), (0, .ref (ad 17 0)), (1, .ref (ad 17 1)), (2, .ref (ad 17 4)), (3, .ref (ad 17 10)), (4, .int (nI a)), (5, .int x9)]) hx hb dL_isApproved_160 hl (by decide) rfl (fun ls hl => ?_)
          have M_184 : ∀ (H : Heap) (locs : List Loc), kX E G s H locs ad (cto G S T o ad) → W p l e (headSpec (Cond.code yL_isApproved cL_isApproved 10 (some .boolean) :: wsL_law) ({ frames := 4, cells := 0, slots := 0, locals := 120 } : Room)).room s m ([.ref (ad 17 0), .ref (ad 17 1), .ref (ad 17 4), .ref (ad 17 10), .int (nI a), .int x9] : List Value).toArray below meth c H locs 0 0 (MQ below (kQi E G (fun r ad1 ct1 => r = bI (appr M (kdS M a) (M.2 1 a) (M.2 0 0) x9) ∧ ad = ad1 ∧ ct1 = cto G S T o ad)) ([.ref (ad 17 0), .ref (ad 17 1), .ref (ad 17 4), .ref (ad 17 10), .int (nI a), .int x9] : List Value).toArray s 0 0 (kB E.heap.size)) (F0 m 184 ls [.int (bI (appr M (kdS M a) (M.2 1 a) (M.2 0 0) x9))]) := by
            intro H locs X
            exact k_iret Z X hr hlocks bI_nar (by omega) (by omega) dL_isApproved_184 ⟨rfl, rfl, rfl⟩
          refine lv_iload hx hb dL_isApproved_162 (lv_at hl 0 rfl) ?_
          refine lv_if_eq (tgt := 183) hx hb dL_isApproved_164 (by decide) (fun c_164 => ?_) (fun c_164 => ?_)
          · have c_164 : (if 1000 < x9 then decide (1 < (yesN M (kdS M a) (M.2 1 a) (M.2 0 0))) && decide (0 < (chfN M (kdS M a) (M.2 1 a) (M.2 0 0))) else decide (0 < (yesN M (kdS M a) (M.2 1 a) (M.2 0 0)))) = false := bI_0 c_164
            refine lv_iconst (v := 0) hx hb dL_isApproved_183 (by decide) ?_
            exact W.eq (congrArg (fun z => F0 m 184 ls (.int z :: [])) (bI_f (by rw [appr, c_164, Bool.and_false]))) (M_184 _ _ X)
          · have c_164 : (if 1000 < x9 then decide (1 < (yesN M (kdS M a) (M.2 1 a) (M.2 0 0))) && decide (0 < (chfN M (kdS M a) (M.2 1 a) (M.2 0 0))) else decide (0 < (yesN M (kdS M a) (M.2 1 a) (M.2 0 0)))) = true := bI_1 c_164
            refine lv_aload_n hx hb dL_isApproved_167 rfl (lv_at hl 3 rfl) ?_
            refine lv_aload_n hx hb dL_isApproved_168 rfl (lv_at hl 5 rfl) ?_
            refine lv_aload_n hx hb dL_isApproved_169 rfl (lv_at hl 6 rfl) ?_
            refine lv_iload hx hb dL_isApproved_170 (lv_at hl 7 rfl) ?_
            refine lv_iconst (v := 2) hx hb dL_isApproved_172 (by decide) ?_
            refine k_Ri X (k_runS (As := [.ref (ad 17 0), .ref (ad 17 4), .ref (ad 17 10), .int (nI a), .int 2]) (rest := []) Z X (c_L_counted2 l E G S T o ad M hT a ha) (k_cwS 5 Z.1.2.2.2.2 (inU_27 _ (List.mem_of_getElem? (i := 14) rfl)) (inU_27 _ (List.mem_of_getElem? (i := 15) rfl)) (inU_6 _ (List.mem_of_getElem? (i := 5) rfl)) (inU_27 _ (List.mem_of_getElem? (i := 16) rfl)) rfl rfl (by decide +kernel) ⟨Nat.le_of_ble_eq_true rfl, Nat.le_of_ble_eq_true rfl⟩) rfl hl.1 rfl (Nat.le_of_ble_eq_true rfl) dL_isApproved_173 ⟨(by first | exact Nat.le_of_ble_eq_true rfl | (show _ ≤ (_ : Nat); simp only [headSpec]; omega)), (by first | exact Nat.le_of_ble_eq_true rfl | (show _ ≤ (_ : Nat); simp only [headSpec]; omega))⟩) (fun r_173 ad1 ct1 H locs hp X => ?_)
            obtain ⟨rfl, ha_, hb_⟩ := hp
            rw [← ha_, hb_] at X
            have hno := noN_le M (kdS M a) (M.2 0 0)
            refine lv_if_ne (tgt := 183) hx hb dL_isApproved_176 (by decide) (fun c_176 => ?_) (fun c_176 => ?_)
            · have c_176 : ¬ noN M (kdS M a) (M.2 0 0) = 0 := fun h => c_176 ((nI_eq (a := noN M (kdS M a) (M.2 0 0)) (b := 0) (by omega) (by omega)).mpr h)
              refine lv_iconst (v := 0) hx hb dL_isApproved_183 (by decide) ?_
              exact W.eq (congrArg (fun z => F0 m 184 ls (.int z :: [])) (bI_f (by rw [appr, eq_true_of_ne_false (fun z => c_176 ((noN_bar M (kdS M a) (M.2 0 0)).mpr z))]; rfl))) (M_184 _ _ X)
            · have c_176 : noN M (kdS M a) (M.2 0 0) = 0 := (nI_eq (a := noN M (kdS M a) (M.2 0 0)) (b := 0) (by omega) (by omega)).mp c_176
              refine lv_iconst (v := 1) hx hb dL_isApproved_179 (by decide) ?_
              refine lv_goto (tgt := 184) hx hb dL_isApproved_180 (by decide) ?_
              exact W.eq (congrArg (fun z => F0 m 184 ls (.int z :: [])) (bI_t (by rw [appr, c_164, (noN_bar M (kdS M a) (M.2 0 0)).mp c_176]; rfl))) (M_184 _ _ X)
        refine lv_iload hx hb dL_isApproved_114 (lv_at hl 8 rfl) ?_
        refine lv_sipush (v := 1000) hx hb dL_isApproved_116 (by decide) ?_
        refine lv_icmp_le (tgt := 147) hx hb dL_isApproved_119 (by decide) (fun c_119 => ?_) (fun c_119 => ?_)
        · refine lv_iload hx hb dL_isApproved_147 (lv_at hl 1 rfl) ?_
          refine lv_iload hx hb dL_isApproved_149 (lv_at hl 2 rfl) ?_
          refine lv_iadd hx hb dL_isApproved_151 ?_
          refine lv_topi (fun x_151 e_151 => ?_)
          obtain rfl : x_151 = nI ((chfN M (kdS M a) (M.2 1 a) (M.2 0 0)) + (ldN M (kdS M a) (M.2 1 a) (M.2 0 0))) := e_151.trans (nI_add (chfN M (kdS M a) (M.2 1 a) (M.2 0 0)) (ldN M (kdS M a) (M.2 1 a) (M.2 0 0)))
          refine lv_if_le (tgt := 159) hx hb dL_isApproved_152 (by decide) (fun c_152 => ?_) (fun c_152 => ?_)
          · have c_152 : (chfN M (kdS M a) (M.2 1 a) (M.2 0 0)) + (ldN M (kdS M a) (M.2 1 a) (M.2 0 0)) ≤ 0 := (nI_leI (a := (chfN M (kdS M a) (M.2 1 a) (M.2 0 0)) + (ldN M (kdS M a) (M.2 1 a) (M.2 0 0))) (b := 0) (by omega) (by omega)).mp c_152
            refine lv_iconst (v := 0) hx hb dL_isApproved_159 (by decide) ?_
            exact W.eq (congrArg (fun z => F0 m 160 ls (.int z :: [])) (bI_f (by rw [if_neg (Int32.not_lt.mpr c_119), ← Bool.not_eq_true, decide_eq_true_eq, hyl]; omega))) (M_160 _ _ X)
          · have c_152 : ¬ (chfN M (kdS M a) (M.2 1 a) (M.2 0 0)) + (ldN M (kdS M a) (M.2 1 a) (M.2 0 0)) ≤ 0 := fun h => c_152 ((nI_leI (a := (chfN M (kdS M a) (M.2 1 a) (M.2 0 0)) + (ldN M (kdS M a) (M.2 1 a) (M.2 0 0))) (b := 0) (by omega) (by omega)).mpr h)
            refine lv_iconst (v := 1) hx hb dL_isApproved_155 (by decide) ?_
            refine lv_goto (tgt := 160) hx hb dL_isApproved_156 (by decide) ?_
            exact W.eq (congrArg (fun z => F0 m 160 ls (.int z :: [])) (bI_t (by rw [if_neg (Int32.not_lt.mpr c_119), decide_eq_true_eq, hyl]; omega))) (M_160 _ _ X)
        · refine lv_iload hx hb dL_isApproved_122 (lv_at hl 1 rfl) ?_
          refine lv_iconst (v := 1) hx hb dL_isApproved_124 (by decide) ?_
          refine lv_icmp_gt (tgt := 139) hx hb dL_isApproved_125 (by decide) (fun c_125 => ?_) (fun c_125 => ?_)
          · have c_125 : 1 < chfN M (kdS M a) (M.2 1 a) (M.2 0 0) := (nI_ltI (a := 1) (b := chfN M (kdS M a) (M.2 1 a) (M.2 0 0)) (by omega) (by omega)).mp c_125
            refine lv_iconst (v := 1) hx hb dL_isApproved_139 (by decide) ?_
            refine lv_goto (tgt := 160) hx hb dL_isApproved_140 (by decide) ?_
            exact W.eq (congrArg (fun z => F0 m 160 ls (.int z :: [])) (bI_t (by rw [if_pos (Int32.not_le.mp c_119), Bool.and_eq_true, decide_eq_true_eq, decide_eq_true_eq, hyl]; omega))) (M_160 _ _ X)
          · have c_125 : ¬ 1 < chfN M (kdS M a) (M.2 1 a) (M.2 0 0) := fun h => c_125 ((nI_ltI (a := 1) (b := chfN M (kdS M a) (M.2 1 a) (M.2 0 0)) (by omega) (by omega)).mpr h)
            refine lv_iload hx hb dL_isApproved_128 (lv_at hl 1 rfl) ?_
            refine lv_iconst (v := 1) hx hb dL_isApproved_130 (by decide) ?_
            refine lv_icmp_ne (tgt := 143) hx hb dL_isApproved_131 (by decide) (fun c_131 => ?_) (fun c_131 => ?_)
            · have c_131 : ¬ chfN M (kdS M a) (M.2 1 a) (M.2 0 0) = 1 := fun h => c_131 ((nI_eq (a := chfN M (kdS M a) (M.2 1 a) (M.2 0 0)) (b := 1) (by omega) (by omega)).mpr h)
              refine lv_iconst (v := 0) hx hb dL_isApproved_143 (by decide) ?_
              refine lv_goto (tgt := 160) hx hb dL_isApproved_144 (by decide) ?_
              exact W.eq (congrArg (fun z => F0 m 160 ls (.int z :: [])) (bI_f (by rw [if_pos (Int32.not_le.mp c_119), ← Bool.not_eq_true, Bool.and_eq_true, decide_eq_true_eq, decide_eq_true_eq, hyl]; omega))) (M_160 _ _ X)
            · have c_131 : chfN M (kdS M a) (M.2 1 a) (M.2 0 0) = 1 := (nI_eq (a := chfN M (kdS M a) (M.2 1 a) (M.2 0 0)) (b := 1) (by omega) (by omega)).mp c_131
              refine lv_iload hx hb dL_isApproved_134 (lv_at hl 2 rfl) ?_
              refine lv_if_le (tgt := 143) hx hb dL_isApproved_136 (by decide) (fun c_136 => ?_) (fun c_136 => ?_)
              · have c_136 : ldN M (kdS M a) (M.2 1 a) (M.2 0 0) ≤ 0 := (nI_leI (a := ldN M (kdS M a) (M.2 1 a) (M.2 0 0)) (b := 0) (by omega) (by omega)).mp c_136
                refine lv_iconst (v := 0) hx hb dL_isApproved_143 (by decide) ?_
                refine lv_goto (tgt := 160) hx hb dL_isApproved_144 (by decide) ?_
                exact W.eq (congrArg (fun z => F0 m 160 ls (.int z :: [])) (bI_f (by rw [if_pos (Int32.not_le.mp c_119), ← Bool.not_eq_true, Bool.and_eq_true, decide_eq_true_eq, decide_eq_true_eq, hyl]; omega))) (M_160 _ _ X)
              · have c_136 : ¬ ldN M (kdS M a) (M.2 1 a) (M.2 0 0) ≤ 0 := fun h => c_136 ((nI_leI (a := ldN M (kdS M a) (M.2 1 a) (M.2 0 0)) (b := 0) (by omega) (by omega)).mpr h)
                refine lv_iconst (v := 1) hx hb dL_isApproved_139 (by decide) ?_
                refine lv_goto (tgt := 160) hx hb dL_isApproved_140 (by decide) ?_
                exact W.eq (congrArg (fun z => F0 m 160 ls (.int z :: [])) (bI_t (by rw [if_pos (Int32.not_le.mp c_119), Bool.and_eq_true, decide_eq_true_eq, decide_eq_true_eq, hyl]; omega))) (M_160 _ _ X)
      · have c_14 : ¬ M.2 0 0 ≤ i := fun h => c_14 ((nI_leI (a := M.2 0 0) (b := i) (by omega) (by omega)).mpr h)
        have hdi := hdg i (by omega)
        have M_60 : ∀ (H : Heap) (locs : List Loc), kX E G s H locs ad (cto G S T o ad) → W p l e (headSpec (Cond.code yL_isApproved cL_isApproved 10 (some .boolean) :: wsL_law) ({ frames := 4, cells := 0, slots := 0, locals := 120 } : Room)).room s m ([.ref (ad 17 0), .ref (ad 17 1), .ref (ad 17 4), .ref (ad 17 10), .int (nI a), .int x9] : List Value).toArray below meth c H locs 0 0 (MQ below (kQi E G (fun r ad1 ct1 => r = bI (appr M (kdS M a) (M.2 1 a) (M.2 0 0) x9) ∧ ad = ad1 ∧ ct1 = cto G S T o ad)) ([.ref (ad 17 0), .ref (ad 17 1), .ref (ad 17 4), .ref (ad 17 10), .int (nI a), .int x9] : List Value).toArray s 0 0 (kB E.heap.size)) (F0 m 60 ls [.int (bI (yyB M (kdS M a) (M.2 1 a) i))]) := by
          intro H locs X
          refine lv_istore (lv' := [(9, .int (bI (yyB M (kdS M a) (M.2 1 a) i))), (8, .int (nI i)), (7, .int (nI (chfN M (kdS M a) (M.2 1 a) i))), (6, .int (nI (ldN M (kdS M a) (M.2 1 a) i))), (0, .ref (ad 17 0)), (1, .ref (ad 17 1)), (2, .ref (ad 17 4)), (3, .ref (ad 17 10)), (4, .int (nI a)), (5, .int x9)]) hx hb dL_isApproved_60 hl (by decide) rfl (fun ls hl => ?_)
          refine lv_iload hx hb dL_isApproved_62 (lv_at hl 3 rfl) ?_
          have M_82 : ∀ (H : Heap) (locs : List Loc), kX E G s H locs ad (cto G S T o ad) → W p l e (headSpec (Cond.code yL_isApproved cL_isApproved 10 (some .boolean) :: wsL_law) ({ frames := 4, cells := 0, slots := 0, locals := 120 } : Room)).room s m ([.ref (ad 17 0), .ref (ad 17 1), .ref (ad 17 4), .ref (ad 17 10), .int (nI a), .int x9] : List Value).toArray below meth c H locs 0 0 (MQ below (kQi E G (fun r ad1 ct1 => r = bI (appr M (kdS M a) (M.2 1 a) (M.2 0 0) x9) ∧ ad = ad1 ∧ ct1 = cto G S T o ad)) ([.ref (ad 17 0), .ref (ad 17 1), .ref (ad 17 4), .ref (ad 17 10), .int (nI a), .int x9] : List Value).toArray s 0 0 (kB E.heap.size)) (F0 m 82 ls [.int (bI (isY M (kdS M a) (M.2 1 a) i && decide (M.1 1 i = 2))), .int (nI (ldN M (kdS M a) (M.2 1 a) i))]) := by
            intro H locs X
            refine lv_iadd hx hb dL_isApproved_82 ?_
            refine lv_topi (fun x_82 e_82 => ?_)
            obtain rfl : x_82 = nI (ldN M (kdS M a) (M.2 1 a) (i + 1)) := e_82.trans (n_bI _ _)
            refine lv_istore (lv' := [(6, .int (nI (ldN M (kdS M a) (M.2 1 a) (i + 1)))), (9, .int (bI (yyB M (kdS M a) (M.2 1 a) i))), (8, .int (nI i)), (7, .int (nI (chfN M (kdS M a) (M.2 1 a) i))), (0, .ref (ad 17 0)), (1, .ref (ad 17 1)), (2, .ref (ad 17 4)), (3, .ref (ad 17 10)), (4, .int (nI a)), (5, .int x9)]) hx hb dL_isApproved_83 hl (by decide) rfl (fun ls hl => ?_)
            refine lv_iload hx hb dL_isApproved_85 (lv_at hl 3 rfl) ?_
            have M_105 : ∀ (H : Heap) (locs : List Loc), kX E G s H locs ad (cto G S T o ad) → W p l e (headSpec (Cond.code yL_isApproved cL_isApproved 10 (some .boolean) :: wsL_law) ({ frames := 4, cells := 0, slots := 0, locals := 120 } : Room)).room s m ([.ref (ad 17 0), .ref (ad 17 1), .ref (ad 17 4), .ref (ad 17 10), .int (nI a), .int x9] : List Value).toArray below meth c H locs 0 0 (MQ below (kQi E G (fun r ad1 ct1 => r = bI (appr M (kdS M a) (M.2 1 a) (M.2 0 0) x9) ∧ ad = ad1 ∧ ct1 = cto G S T o ad)) ([.ref (ad 17 0), .ref (ad 17 1), .ref (ad 17 4), .ref (ad 17 10), .int (nI a), .int x9] : List Value).toArray s 0 0 (kB E.heap.size)) (F0 m 105 ls [.int (bI (isY M (kdS M a) (M.2 1 a) i && decide (M.1 1 i = 3))), .int (nI (chfN M (kdS M a) (M.2 1 a) i))]) := by
              intro H locs X
              refine lv_iadd hx hb dL_isApproved_105 ?_
              refine lv_topi (fun x_105 e_105 => ?_)
              obtain rfl : x_105 = nI (chfN M (kdS M a) (M.2 1 a) (i + 1)) := e_105.trans (n_bI _ _)
              refine lv_istore (lv' := [(7, .int (nI (chfN M (kdS M a) (M.2 1 a) (i + 1)))), (6, .int (nI (ldN M (kdS M a) (M.2 1 a) (i + 1)))), (9, .int (bI (yyB M (kdS M a) (M.2 1 a) i))), (8, .int (nI i)), (0, .ref (ad 17 0)), (1, .ref (ad 17 1)), (2, .ref (ad 17 4)), (3, .ref (ad 17 10)), (4, .int (nI a)), (5, .int x9)]) hx hb dL_isApproved_106 hl (by decide) rfl (fun ls hl => ?_)
              refine lv_iinc (v := (nI (i + 1))) (lv' := [(8, .int (nI (i + 1))), (7, .int (nI (chfN M (kdS M a) (M.2 1 a) (i + 1)))), (6, .int (nI (ldN M (kdS M a) (M.2 1 a) (i + 1)))), (9, .int (bI (yyB M (kdS M a) (M.2 1 a) i))), (0, .ref (ad 17 0)), (1, .ref (ad 17 1)), (2, .ref (ad 17 4)), (3, .ref (ad 17 10)), (4, .int (nI a)), (5, .int x9)]) hx hb dL_isApproved_108 hl (k := 3) rfl (nI_1 _) (by decide) rfl (fun ls hl => ?_)
              refine lv_goto (tgt := 9) hx hb dL_isApproved_111 (by decide) ?_
              exact ih (i + 1) (by omega) (by omega) _ _ _ X (lv_sub hl [0, 1, 2, 4, 5, 6, 7, 8, 9] rfl)
            refine lv_iload hx hb dL_isApproved_87 (lv_at hl 1 rfl) ?_
            refine lv_if_eq (tgt := 104) hx hb dL_isApproved_89 (by decide) (fun c_89 => ?_) (fun c_89 => ?_)
            · have c_89 : (yyB M (kdS M a) (M.2 1 a) i) = false := bI_0 c_89
              refine lv_iconst (v := 0) hx hb dL_isApproved_104 (by decide) ?_
              exact W.eq (congrArg (fun z => F0 m 105 ls (.int z :: [.int (nI (chfN M (kdS M a) (M.2 1 a) i))])) (bI_f (by rw [isY_yy c_89]; rfl))) (M_105 _ _ X)
            · have c_89 : (yyB M (kdS M a) (M.2 1 a) i) = true := bI_1 c_89
              refine lv_aload_n hx hb dL_isApproved_92 rfl (lv_at hl 4 rfl) ?_
              refine lv_iload hx hb dL_isApproved_93 (lv_at hl 2 rfl) ?_
              refine k_ild (ad := ad) (k := 17) (i := 0) Z X ct_17_0 (vp_in_nI (n := i) (by first | assumption | omega) (by decide)) dL_isApproved_95 ?_
              refine lv_topi (fun x_95 e_95 => ?_)
              obtain rfl : x_95 = T.1 1 i := e_95.trans (by first | (simp only [nI_clamp (show i < 2 ^ 31 by omega)]; done) | rfl | (simp only [nI_clamp (show i < 2 ^ 31 by omega)]; rfl) | (simp only [nI_clamp (show i < 2 ^ 31 by omega)]; simp [sI, sN]; done))
              refine lv_topi (fun x_95 e_95 => ?_)
              obtain rfl : x_95 = M.1 1 i := e_95.trans (hT.u (by omega))
              refine lv_iconst (v := 3) hx hb dL_isApproved_96 (by decide) ?_
              refine lv_icmp_ne (tgt := 104) hx hb dL_isApproved_97 (by decide) (fun c_97 => ?_) (fun c_97 => ?_)
              · refine lv_iconst (v := 0) hx hb dL_isApproved_104 (by decide) ?_
                exact W.eq (congrArg (fun z => F0 m 105 ls (.int z :: [.int (nI (chfN M (kdS M a) (M.2 1 a) i))])) (bI_f (by rw [decide_eq_false c_97, Bool.and_false]))) (M_105 _ _ X)
              · refine lv_iconst (v := 1) hx hb dL_isApproved_100 (by decide) ?_
                refine lv_goto (tgt := 105) hx hb dL_isApproved_101 (by decide) ?_
                exact W.eq (congrArg (fun z => F0 m 105 ls (.int z :: [.int (nI (chfN M (kdS M a) (M.2 1 a) i))])) (bI_t (by rw [isY_of c_89 (by rw [c_97]; decide), c_97]; decide))) (M_105 _ _ X)
          refine lv_iload hx hb dL_isApproved_64 (lv_at hl 0 rfl) ?_
          refine lv_if_eq (tgt := 81) hx hb dL_isApproved_66 (by decide) (fun c_66 => ?_) (fun c_66 => ?_)
          · have c_66 : (yyB M (kdS M a) (M.2 1 a) i) = false := bI_0 c_66
            refine lv_iconst (v := 0) hx hb dL_isApproved_81 (by decide) ?_
            exact W.eq (congrArg (fun z => F0 m 82 ls (.int z :: [.int (nI (ldN M (kdS M a) (M.2 1 a) i))])) (bI_f (by rw [isY_yy c_66]; rfl))) (M_82 _ _ X)
          · have c_66 : (yyB M (kdS M a) (M.2 1 a) i) = true := bI_1 c_66
            refine lv_aload_n hx hb dL_isApproved_69 rfl (lv_at hl 4 rfl) ?_
            refine lv_iload hx hb dL_isApproved_70 (lv_at hl 1 rfl) ?_
            refine k_ild (ad := ad) (k := 17) (i := 0) Z X ct_17_0 (vp_in_nI (n := i) (by first | assumption | omega) (by decide)) dL_isApproved_72 ?_
            refine lv_topi (fun x_72 e_72 => ?_)
            obtain rfl : x_72 = T.1 1 i := e_72.trans (by first | (simp only [nI_clamp (show i < 2 ^ 31 by omega)]; done) | rfl | (simp only [nI_clamp (show i < 2 ^ 31 by omega)]; rfl) | (simp only [nI_clamp (show i < 2 ^ 31 by omega)]; simp [sI, sN]; done))
            refine lv_topi (fun x_72 e_72 => ?_)
            obtain rfl : x_72 = M.1 1 i := e_72.trans (hT.u (by omega))
            refine lv_iconst (v := 2) hx hb dL_isApproved_73 (by decide) ?_
            refine lv_icmp_ne (tgt := 81) hx hb dL_isApproved_74 (by decide) (fun c_74 => ?_) (fun c_74 => ?_)
            · refine lv_iconst (v := 0) hx hb dL_isApproved_81 (by decide) ?_
              exact W.eq (congrArg (fun z => F0 m 82 ls (.int z :: [.int (nI (ldN M (kdS M a) (M.2 1 a) i))])) (bI_f (by rw [decide_eq_false c_74, Bool.and_false]))) (M_82 _ _ X)
            · refine lv_iconst (v := 1) hx hb dL_isApproved_77 (by decide) ?_
              refine lv_goto (tgt := 82) hx hb dL_isApproved_78 (by decide) ?_
              exact W.eq (congrArg (fun z => F0 m 82 ls (.int z :: [.int (nI (ldN M (kdS M a) (M.2 1 a) i))])) (bI_t (by rw [isY_of c_66 (by rw [c_74]; decide), c_74]; decide))) (M_82 _ _ X)
        refine lv_aload_n hx hb dL_isApproved_17 rfl (lv_at hl 5 rfl) ?_
        refine lv_iload hx hb dL_isApproved_18 (lv_at hl 7 rfl) ?_
        refine k_ild (ad := ad) (k := 17) (i := 4) Z X ct_17_4 (vp_in_nI (n := a) (by first | assumption | omega) (by decide)) dL_isApproved_20 ?_
        refine lv_topi (fun x_20 e_20 => ?_)
        obtain rfl : x_20 = T.1 5 a := e_20.trans (by first | (simp only [nI_clamp (show a < 2 ^ 31 by omega)]; done) | rfl | (simp only [nI_clamp (show a < 2 ^ 31 by omega)]; rfl) | (simp only [nI_clamp (show a < 2 ^ 31 by omega)]; simp [sI, sN]; done))
        refine lv_topi (fun x_20 e_20 => ?_)
        obtain rfl : x_20 = nI (k8 dg) := e_20.trans (hdx)
        refine lv_iconst (v := 3) hx hb dL_isApproved_21 (by decide) ?_
        refine lv_iload hx hb dL_isApproved_22 (lv_at hl 0 rfl) ?_
        refine lv_imul hx hb dL_isApproved_24 ?_
        refine lv_topi (fun x_24 e_24 => ?_)
        obtain rfl : x_24 = nI (3 * i) := e_24.trans (pk_mul 3 i)
        refine lv_ishr hx hb dL_isApproved_25 ?_
        refine lv_topi (fun x_25 e_25 => ?_)
        obtain rfl : x_25 = nI (k8 dg / 2 ^ (3 * i)) := e_25.trans (n_shr (Nat.lt_trans (k8_lt hdg) (by decide)) (by omega))
        refine lv_bipush (v := 7) hx hb dL_isApproved_26 (by decide) ?_
        refine lv_iand hx hb dL_isApproved_28 ?_
        refine lv_topi (fun x_28 e_28 => ?_)
        obtain rfl : x_28 = nI (dg i) := e_28.trans ((pk_andN (Nat.lt_of_le_of_lt (Nat.div_le_self _ _) (Nat.lt_trans (k8_lt hdg) (by decide))) 3 rfl).trans (congrArg nI (k8_at hdg i (by omega))))
        refine lv_iconst (v := 1) hx hb dL_isApproved_29 (by decide) ?_
        refine lv_icmp_ne (tgt := 59) hx hb dL_isApproved_30 (by decide) (fun c_30 => ?_) (fun c_30 => ?_)
        · have c_30 : ¬ dg i = 1 := fun h => c_30 ((nI_eq (a := dg i) (b := 1) (by omega) (by omega)).mpr h)
          have s_30 : ¬ kdS M a i = 0 := fun z => c_30 ((hdd i (by omega)).1.mpr z)
          refine lv_iconst (v := 0) hx hb dL_isApproved_59 (by decide) ?_
          exact W.eq (congrArg (fun z => F0 m 60 ls (.int z :: [])) (bI_f (by simp [yyB, s_30]))) (M_60 _ _ X)
        · have c_30 : dg i = 1 := (nI_eq (a := dg i) (b := 1) (by omega) (by omega)).mp c_30
          have s_30 : kdS M a i = 0 := (hdd i (by omega)).1.mp c_30
          refine lv_aload_n hx hb dL_isApproved_33 rfl (lv_at hl 3 rfl) ?_
          refine lv_aload_n hx hb dL_isApproved_34 rfl (lv_at hl 6 rfl) ?_
          refine lv_iload hx hb dL_isApproved_35 (lv_at hl 0 rfl) ?_
          refine k_Ri X (k_runS (As := [.ref (ad 17 0), .ref (ad 17 10), .int (nI i)]) (rest := []) Z X (c_L_isGone l E G S T o ad M hT i (by omega)) (k_cwS 3 Z.1.2.2.2.2 (inU_27 _ (List.mem_of_getElem? (i := 11) rfl)) (inU_27 _ (List.mem_of_getElem? (i := 12) rfl)) (inU_6 _ (List.mem_of_getElem? (i := 5) rfl)) (inU_27 _ (List.mem_of_getElem? (i := 13) rfl)) rfl rfl (by decide +kernel) ⟨Nat.le_of_ble_eq_true rfl, Nat.le_of_ble_eq_true rfl⟩) rfl hl.1 rfl (Nat.le_of_ble_eq_true rfl) dL_isApproved_37 ⟨(by first | exact Nat.le_of_ble_eq_true rfl | (show _ ≤ (_ : Nat); simp only [headSpec]; omega)), (by first | exact Nat.le_of_ble_eq_true rfl | (show _ ≤ (_ : Nat); simp only [headSpec]; omega))⟩) (fun r_37 ad1 ct1 H locs hp X => ?_)
          obtain ⟨rfl, ha_, hb_⟩ := hp
          rw [← ha_, hb_] at X
          refine lv_if_ne (tgt := 59) hx hb dL_isApproved_40 (by decide) (fun c_40 => ?_) (fun c_40 => ?_)
          · have c_40 : (gone M i) = true := bI_1 c_40
            have s_40 := c_40
            refine lv_iconst (v := 0) hx hb dL_isApproved_59 (by decide) ?_
            exact W.eq (congrArg (fun z => F0 m 60 ls (.int z :: [])) (bI_f (by simp [yyB, s_30, s_40]))) (M_60 _ _ X)
          · have c_40 : (gone M i) = false := bI_0 c_40
            have s_40 := c_40
            have hau := (hN.2.2.2.2.1 a ha).1
            refine lv_iload hx hb dL_isApproved_43 (lv_at hl 0 rfl) ?_
            refine lv_aload_n hx hb dL_isApproved_45 rfl (lv_at hl 4 rfl) ?_
            refine lv_iload hx hb dL_isApproved_46 (lv_at hl 7 rfl) ?_
            refine k_ild (ad := ad) (k := 17) (i := 1) Z X ct_17_1 (vp_in_nI (n := a) (by first | assumption | omega) (by decide)) dL_isApproved_48 ?_
            refine lv_topi (fun x_48 e_48 => ?_)
            obtain rfl : x_48 = T.1 2 a := e_48.trans (by first | (simp only [nI_clamp (show a < 2 ^ 31 by omega)]; done) | rfl | (simp only [nI_clamp (show a < 2 ^ 31 by omega)]; rfl) | (simp only [nI_clamp (show a < 2 ^ 31 by omega)]; simp [sI, sN]; done))
            refine lv_topi (fun x_48 e_48 => ?_)
            obtain rfl : x_48 = nI (encm M a) := e_48.trans (hT.m (by omega))
            refine lv_bipush (v := 16) hx hb dL_isApproved_49 (by decide) ?_
            refine lv_irem hx hb dL_isApproved_51 (by decide) ?_
            refine lv_topi (fun x_51 e_51 => ?_)
            obtain rfl : x_51 = nI (M.2 1 a) := e_51.trans ((pk_rem (a := (encm M a)) (d := 16) (by have := (hT.mm hN (j := a) (by omega)).1; omega) (by omega) (by omega)).trans (congrArg nI (hT.mm hN (j := a) (by omega)).2.1))
            refine lv_icmp_eq (tgt := 59) hx hb dL_isApproved_52 (by decide) (fun c_52 => ?_) (fun c_52 => ?_)
            · have c_52 : i = M.2 1 a := (nI_eq (a := i) (b := M.2 1 a) (by omega) (by omega)).mp c_52
              have s_52 := c_52
              refine lv_iconst (v := 0) hx hb dL_isApproved_59 (by decide) ?_
              exact W.eq (congrArg (fun z => F0 m 60 ls (.int z :: [])) (bI_f (by simp [yyB, s_30, s_40, s_52]))) (M_60 _ _ X)
            · have c_52 : ¬ i = M.2 1 a := fun h => c_52 ((nI_eq (a := i) (b := M.2 1 a) (by omega) (by omega)).mpr h)
              have s_52 := c_52
              refine lv_iconst (v := 1) hx hb dL_isApproved_55 (by decide) ?_
              refine lv_goto (tgt := 60) hx hb dL_isApproved_56 (by decide) ?_
              exact W.eq (congrArg (fun z => F0 m 60 ls (.int z :: [])) (bI_t (by simp [yyB, s_30, s_40, s_52]))) (M_60 _ _ X)
  exact LOOP_9 (M.2 0 0 + 1) 0 (Nat.zero_le _) (by omega) _ _ _ X (lv_sub hl [0, 1, 2, 3, 4, 5, 6, 7, 8] rfl)
