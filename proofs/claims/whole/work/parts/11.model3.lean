theorem dX8_approves_0 : decode cX8_approves 0 = .ok (.iconst 0, 1) := by decide +kernel
theorem dX8_approves_1 : decode cX8_approves 1 = .ok (.istore_n 3, 1) := by decide +kernel
theorem dX8_approves_2 : decode cX8_approves 2 = .ok (.iconst 0, 1) := by decide +kernel
theorem dX8_approves_3 : decode cX8_approves 3 = .ok (.istore 4, 2) := by decide +kernel
theorem dX8_approves_5 : decode cX8_approves 5 = .ok (.iconst 0, 1) := by decide +kernel
theorem dX8_approves_6 : decode cX8_approves 6 = .ok (.istore 5, 2) := by decide +kernel
theorem dX8_approves_8 : decode cX8_approves 8 = .ok (.iconst 0, 1) := by decide +kernel
theorem dX8_approves_9 : decode cX8_approves 9 = .ok (.istore 6, 2) := by decide +kernel
theorem dX8_approves_11 : decode cX8_approves 11 = .ok (.iload 6, 2) := by decide +kernel
theorem dX8_approves_13 : decode cX8_approves 13 = .ok (.aload_n 0, 1) := by decide +kernel
theorem dX8_approves_14 : decode cX8_approves 14 = .ok (.getfield 81, 3) := by decide +kernel
theorem dX8_approves_17 : decode cX8_approves 17 = .ok (.if_icmp .ge 140, 3) := by decide +kernel
theorem dX8_approves_20 : decode cX8_approves 20 = .ok (.aload_n 0, 1) := by decide +kernel
theorem dX8_approves_21 : decode cX8_approves 21 = .ok (.iload_n 1, 1) := by decide +kernel
theorem dX8_approves_22 : decode cX8_approves 22 = .ok (.iload 6, 2) := by decide +kernel
theorem dX8_approves_24 : decode cX8_approves 24 = .ok (.invokevirtual 98, 3) := by decide +kernel
theorem dX8_approves_27 : decode cX8_approves 27 = .ok (.ifCond .eq 44, 3) := by decide +kernel
theorem dX8_approves_30 : decode cX8_approves 30 = .ok (.aload_n 0, 1) := by decide +kernel
theorem dX8_approves_31 : decode cX8_approves 31 = .ok (.getfield 41, 3) := by decide +kernel
theorem dX8_approves_34 : decode cX8_approves 34 = .ok (.bipush 12, 2) := by decide +kernel
theorem dX8_approves_36 : decode cX8_approves 36 = .ok (.iload_n 1, 1) := by decide +kernel
theorem dX8_approves_37 : decode cX8_approves 37 = .ok (.imul, 1) := by decide +kernel
theorem dX8_approves_38 : decode cX8_approves 38 = .ok (.iload 6, 2) := by decide +kernel
theorem dX8_approves_40 : decode cX8_approves 40 = .ok (.iadd, 1) := by decide +kernel
theorem dX8_approves_41 : decode cX8_approves 41 = .ok (.iaload, 1) := by decide +kernel
theorem dX8_approves_42 : decode cX8_approves 42 = .ok (.ifCond .ne 29, 3) := by decide +kernel
theorem dX8_approves_45 : decode cX8_approves 45 = .ok (.aload_n 0, 1) := by decide +kernel
theorem dX8_approves_46 : decode cX8_approves 46 = .ok (.getfield 7, 3) := by decide +kernel
theorem dX8_approves_49 : decode cX8_approves 49 = .ok (.iload 6, 2) := by decide +kernel
theorem dX8_approves_51 : decode cX8_approves 51 = .ok (.iaload, 1) := by decide +kernel
theorem dX8_approves_52 : decode cX8_approves 52 = .ok (.iconst 2, 1) := by decide +kernel
theorem dX8_approves_53 : decode cX8_approves 53 = .ok (.if_icmp .lt 18, 3) := by decide +kernel
theorem dX8_approves_56 : decode cX8_approves 56 = .ok (.iload 6, 2) := by decide +kernel
theorem dX8_approves_58 : decode cX8_approves 58 = .ok (.aload_n 0, 1) := by decide +kernel
theorem dX8_approves_59 : decode cX8_approves 59 = .ok (.getfield 23, 3) := by decide +kernel
theorem dX8_approves_62 : decode cX8_approves 62 = .ok (.iload_n 1, 1) := by decide +kernel
theorem dX8_approves_63 : decode cX8_approves 63 = .ok (.iaload, 1) := by decide +kernel
theorem dX8_approves_64 : decode cX8_approves 64 = .ok (.if_icmp .eq 7, 3) := by decide +kernel
theorem dX8_approves_67 : decode cX8_approves 67 = .ok (.iconst 1, 1) := by decide +kernel
theorem dX8_approves_68 : decode cX8_approves 68 = .ok (.goto 4, 3) := by decide +kernel
theorem dX8_approves_71 : decode cX8_approves 71 = .ok (.iconst 0, 1) := by decide +kernel
theorem dX8_approves_72 : decode cX8_approves 72 = .ok (.istore 7, 2) := by decide +kernel
theorem dX8_approves_74 : decode cX8_approves 74 = .ok (.iload 5, 2) := by decide +kernel
theorem dX8_approves_76 : decode cX8_approves 76 = .ok (.ifCond .ne 29, 3) := by decide +kernel
theorem dX8_approves_79 : decode cX8_approves 79 = .ok (.aload_n 0, 1) := by decide +kernel
theorem dX8_approves_80 : decode cX8_approves 80 = .ok (.iload_n 1, 1) := by decide +kernel
theorem dX8_approves_81 : decode cX8_approves 81 = .ok (.iload 6, 2) := by decide +kernel
theorem dX8_approves_83 : decode cX8_approves 83 = .ok (.invokevirtual 98, 3) := by decide +kernel
theorem dX8_approves_86 : decode cX8_approves 86 = .ok (.ifCond .eq 23, 3) := by decide +kernel
theorem dX8_approves_89 : decode cX8_approves 89 = .ok (.aload_n 0, 1) := by decide +kernel
theorem dX8_approves_90 : decode cX8_approves 90 = .ok (.getfield 41, 3) := by decide +kernel
theorem dX8_approves_93 : decode cX8_approves 93 = .ok (.bipush 12, 2) := by decide +kernel
theorem dX8_approves_95 : decode cX8_approves 95 = .ok (.iload_n 1, 1) := by decide +kernel
theorem dX8_approves_96 : decode cX8_approves 96 = .ok (.imul, 1) := by decide +kernel
theorem dX8_approves_97 : decode cX8_approves 97 = .ok (.iload 6, 2) := by decide +kernel
theorem dX8_approves_99 : decode cX8_approves 99 = .ok (.iadd, 1) := by decide +kernel
theorem dX8_approves_100 : decode cX8_approves 100 = .ok (.iaload, 1) := by decide +kernel
theorem dX8_approves_101 : decode cX8_approves 101 = .ok (.iconst 1, 1) := by decide +kernel
theorem dX8_approves_102 : decode cX8_approves 102 = .ok (.if_icmp .ne 7, 3) := by decide +kernel
theorem dX8_approves_105 : decode cX8_approves 105 = .ok (.iconst 1, 1) := by decide +kernel
theorem dX8_approves_106 : decode cX8_approves 106 = .ok (.goto 4, 3) := by decide +kernel
theorem dX8_approves_109 : decode cX8_approves 109 = .ok (.iconst 0, 1) := by decide +kernel
theorem dX8_approves_110 : decode cX8_approves 110 = .ok (.istore 5, 2) := by decide +kernel
theorem dX8_approves_112 : decode cX8_approves 112 = .ok (.iload_n 3, 1) := by decide +kernel
theorem dX8_approves_113 : decode cX8_approves 113 = .ok (.iload 7, 2) := by decide +kernel
theorem dX8_approves_115 : decode cX8_approves 115 = .ok (.ifCond .eq 7, 3) := by decide +kernel
theorem dX8_approves_118 : decode cX8_approves 118 = .ok (.iconst 1, 1) := by decide +kernel
theorem dX8_approves_119 : decode cX8_approves 119 = .ok (.goto 4, 3) := by decide +kernel
theorem dX8_approves_122 : decode cX8_approves 122 = .ok (.iconst 0, 1) := by decide +kernel
theorem dX8_approves_123 : decode cX8_approves 123 = .ok (.iadd, 1) := by decide +kernel
theorem dX8_approves_124 : decode cX8_approves 124 = .ok (.istore_n 3, 1) := by decide +kernel
theorem dX8_approves_125 : decode cX8_approves 125 = .ok (.iload 4, 2) := by decide +kernel
theorem dX8_approves_127 : decode cX8_approves 127 = .ok (.iload 7, 2) := by decide +kernel
theorem dX8_approves_129 : decode cX8_approves 129 = .ok (.ifCond .eq 18, 3) := by decide +kernel
theorem dX8_approves_132 : decode cX8_approves 132 = .ok (.aload_n 0, 1) := by decide +kernel
theorem dX8_approves_133 : decode cX8_approves 133 = .ok (.getfield 7, 3) := by decide +kernel
theorem dX8_approves_136 : decode cX8_approves 136 = .ok (.iload 6, 2) := by decide +kernel
theorem dX8_approves_138 : decode cX8_approves 138 = .ok (.iaload, 1) := by decide +kernel
theorem dX8_approves_139 : decode cX8_approves 139 = .ok (.iconst 3, 1) := by decide +kernel
theorem dX8_approves_140 : decode cX8_approves 140 = .ok (.if_icmp .ne 7, 3) := by decide +kernel
theorem dX8_approves_143 : decode cX8_approves 143 = .ok (.iconst 1, 1) := by decide +kernel
theorem dX8_approves_144 : decode cX8_approves 144 = .ok (.goto 4, 3) := by decide +kernel
theorem dX8_approves_147 : decode cX8_approves 147 = .ok (.iconst 0, 1) := by decide +kernel
theorem dX8_approves_148 : decode cX8_approves 148 = .ok (.iadd, 1) := by decide +kernel
theorem dX8_approves_149 : decode cX8_approves 149 = .ok (.istore 4, 2) := by decide +kernel
theorem dX8_approves_151 : decode cX8_approves 151 = .ok (.iinc 6 1, 3) := by decide +kernel
theorem dX8_approves_154 : decode cX8_approves 154 = .ok (.goto (-143), 3) := by decide +kernel
theorem dX8_approves_157 : decode cX8_approves 157 = .ok (.iload 5, 2) := by decide +kernel
theorem dX8_approves_159 : decode cX8_approves 159 = .ok (.ifCond .ne 31, 3) := by decide +kernel
theorem dX8_approves_162 : decode cX8_approves 162 = .ok (.iload_n 2, 1) := by decide +kernel
theorem dX8_approves_163 : decode cX8_approves 163 = .ok (.sipush 1000, 3) := by decide +kernel
theorem dX8_approves_166 : decode cX8_approves 166 = .ok (.if_icmp .le 16, 3) := by decide +kernel
theorem dX8_approves_169 : decode cX8_approves 169 = .ok (.iload_n 3, 1) := by decide +kernel
theorem dX8_approves_170 : decode cX8_approves 170 = .ok (.iconst 1, 1) := by decide +kernel
theorem dX8_approves_171 : decode cX8_approves 171 = .ok (.if_icmp .le 19, 3) := by decide +kernel
theorem dX8_approves_174 : decode cX8_approves 174 = .ok (.iload 4, 2) := by decide +kernel
theorem dX8_approves_176 : decode cX8_approves 176 = .ok (.ifCond .le 14, 3) := by decide +kernel
theorem dX8_approves_179 : decode cX8_approves 179 = .ok (.goto 7, 3) := by decide +kernel
theorem dX8_approves_182 : decode cX8_approves 182 = .ok (.iload_n 3, 1) := by decide +kernel
theorem dX8_approves_183 : decode cX8_approves 183 = .ok (.ifCond .le 7, 3) := by decide +kernel
theorem dX8_approves_186 : decode cX8_approves 186 = .ok (.iconst 1, 1) := by decide +kernel
theorem dX8_approves_187 : decode cX8_approves 187 = .ok (.goto 4, 3) := by decide +kernel
theorem dX8_approves_190 : decode cX8_approves 190 = .ok (.iconst 0, 1) := by decide +kernel
theorem dX8_approves_191 : decode cX8_approves 191 = .ok (.ireturn, 1) := by decide +kernel
set_option maxHeartbeats 4000000 in
set_option maxRecDepth 100000 in
theorem c_X8_approves (l : Launch) (E : State) (G : kG) (S T : kSt) (o : Int64) (ad : kAd) (a : Nat) (x : Int32) (ha : a < 80) (hT : T.2 0 0 ≤ 12) (hA : T.2 1 a < 12) : Met l yX8_approves (.code yX8_approves cX8_approves 8 (some .boolean) :: wsL_law) ({ frames := 3, cells := 0, slots := 0, locals := 70 } : Room) (va_Pc [.ref (ad 16 0), .int (nI a), .int x] (kPre E G ad (cto G S T o ad))) (kQi E G (fun r ad1 ct1 => r = bI (appr T (kdT T a) (T.2 1 a) (T.2 0 0) x) ∧ ad = ad1 ∧ ct1 = cto G S T o ad)) 0 0 (kB E.heap.size) := by
  refine Met.ofW (cc := cX8_approves) (maxL := 8) (ret := (some .boolean)) (by decide) rfl ?_
  intro p e s m args below meth c s₁ B hml hv
  obtain ⟨rfl, hM, hK, hW0⟩ := hv
  have hlocks := B.notSynchronized
  have hr := B.returns
  have Z : kZ p m c cX8_approves 8 s _ wsL_law RX8 E G := ⟨⟨B.exec, B.bytes, hml, findClass_of_methodNamed B.named, fun w h => atoms_spec (ws := .code yX8_approves cX8_approves 8 (some .boolean) :: wsL_law) B.pre w (List.mem_cons_of_mem _ h)⟩, hM, hK⟩
  have hx := Z.1.1
  have hb := Z.1.2.1
  have X := kX.of hW0
  have hl := lv_entry ([.ref (ad 16 0), .int (nI a), .int x]) (n := 8) (Nat.le_of_ble_eq_true rfl)
  rw [lg_entry_eq]
  generalize (lg_sl ([.ref (ad 16 0), .int (nI a), .int x]) ++ List.replicate (8 - (lg_sl ([.ref (ad 16 0), .int (nI a), .int x])).length) Slot.unset).toArray = ls at hl ⊢
  have hl : lv_has ls 8 [(0, .ref (ad 16 0)), (1, .int (nI a)), (2, .int x)] := hl
  refine lv_iconst (v := 0) hx hb dX8_approves_0 (by decide) ?_
  refine lv_istore_n (lv' := [(3, .int 0), (0, .ref (ad 16 0)), (1, .int (nI a)), (2, .int x)]) hx hb dX8_approves_1 rfl hl (by decide) rfl (fun ls hl => ?_)
  refine lv_iconst (v := 0) hx hb dX8_approves_2 (by decide) ?_
  refine lv_istore (lv' := [(4, .int 0), (3, .int 0), (0, .ref (ad 16 0)), (1, .int (nI a)), (2, .int x)]) hx hb dX8_approves_3 hl (by decide) rfl (fun ls hl => ?_)
  refine lv_iconst (v := 0) hx hb dX8_approves_5 (by decide) ?_
  refine lv_istore (lv' := [(5, .int 0), (4, .int 0), (3, .int 0), (0, .ref (ad 16 0)), (1, .int (nI a)), (2, .int x)]) hx hb dX8_approves_6 hl (by decide) rfl (fun ls hl => ?_)
  refine lv_iconst (v := 0) hx hb dX8_approves_8 (by decide) ?_
  refine lv_istore (lv' := [(6, .int 0), (5, .int 0), (4, .int 0), (3, .int 0), (0, .ref (ad 16 0)), (1, .int (nI a)), (2, .int x)]) hx hb dX8_approves_9 hl (by decide) rfl (fun ls hl => ?_)
  have LOOP_11 : ∀ (d : Nat) (n : Nat), n ≤ T.2 0 0 → T.2 0 0 < n + d → ∀ (H : Heap) (locs : List Loc) (ls : Array Slot), kX E G s H locs ad (cto G S T o ad) → lv_has ls 8 [(6, .int (nI n)), (5, .int (bI (bar T (kdT T a) n))), (4, .int (nI (chfN T (kdT T a) (T.2 1 a) n))), (3, .int (nI (yesN T (kdT T a) (T.2 1 a) n))), (0, .ref (ad 16 0)), (1, .int (nI a)), (2, .int x)] → W p l e (headSpec (Cond.code yX8_approves cX8_approves 8 (some .boolean) :: wsL_law) ({ frames := 3, cells := 0, slots := 0, locals := 70 } : Room)).room s m ([.ref (ad 16 0), .int (nI a), .int x] : List Value).toArray below meth c H locs 0 0 (MQ below (kQi E G (fun r ad1 ct1 => r = bI (appr T (kdT T a) (T.2 1 a) (T.2 0 0) x) ∧ ad = ad1 ∧ ct1 = cto G S T o ad)) ([.ref (ad 16 0), .int (nI a), .int x] : List Value).toArray s 0 0 (kB E.heap.size)) (F0 m 11 ls []) := by
    intro d
    induction d with
    | zero => intro n h1 h2; intros; exact absurd h2 (by omega)
    | succ d ih =>
      intro n h1 h2 H locs ls X hl
      refine lv_iload hx hb dX8_approves_11 (lv_at hl 0 rfl) ?_
      refine lv_aload_n hx hb dX8_approves_13 rfl (lv_at hl 4 rfl) ?_
      refine k_get (index := 81) (j := 1) (ad := ad) (k := 16) (i := 0) Z X ct_16 inlX8 rfl (by decide) (inU_8 _ (List.mem_of_getElem? (i := 19) rfl)) (fun _ h => h) rfl dX8_approves_14 ?_
      refine lv_icmp_ge (tgt := 157) hx hb dX8_approves_17 (by decide) (fun c_17 => ?_) (fun c_17 => ?_)
      · have c_17 : (T.2 0 0) ≤ n := (nI_leI (a := (T.2 0 0)) (b := n) (by omega) (by omega)).mp c_17
        have hn : n = T.2 0 0 := by omega
        have hy := yesN_le T (kdT T a) (T.2 1 a) n
        have hc := chfN_le T (kdT T a) (T.2 1 a) n
        refine lv_iload hx hb dX8_approves_157 (lv_at hl 1 rfl) ?_
        refine lv_if_ne (tgt := 190) hx hb dX8_approves_159 (by decide) (fun c_159 => ?_) (fun c_159 => ?_)
        · have c_159 : (bar T (kdT T a) n) = true := bI_1 c_159
          refine lv_iconst (v := 0) hx hb dX8_approves_190 (by decide) ?_
          exact k_iret Z X hr hlocks rfl (Nat.le_of_ble_eq_true rfl) (Nat.le_of_ble_eq_true rfl) dX8_approves_191 ⟨bI_f (by subst hn; simp only [appr]; first | (simp [c_159]; done) | (simp [c_159]; omega)), rfl, rfl⟩
        · have c_159 : (bar T (kdT T a) n) = false := bI_0 c_159
          refine lv_iload_n hx hb dX8_approves_162 rfl (lv_at hl 6 rfl) ?_
          refine lv_sipush (v := 1000) hx hb dX8_approves_163 (by decide) ?_
          refine lv_icmp_le (tgt := 182) hx hb dX8_approves_166 (by decide) (fun c_166 => ?_) (fun c_166 => ?_)
          · have c_166 : ¬ (1000 : Int32) < x := Int32.not_lt.mpr c_166
            refine lv_iload_n hx hb dX8_approves_182 rfl (lv_at hl 3 rfl) ?_
            refine lv_if_le (tgt := 190) hx hb dX8_approves_183 (by decide) (fun c_183 => ?_) (fun c_183 => ?_)
            · have c_183 : (yesN T (kdT T a) (T.2 1 a) n) ≤ 0 := (nI_leI (a := (yesN T (kdT T a) (T.2 1 a) n)) (b := 0) (by omega) (by decide)).mp c_183
              refine lv_iconst (v := 0) hx hb dX8_approves_190 (by decide) ?_
              exact k_iret Z X hr hlocks rfl (Nat.le_of_ble_eq_true rfl) (Nat.le_of_ble_eq_true rfl) dX8_approves_191 ⟨bI_f (by subst hn; simp only [appr]; first | (simp [c_159, c_166, c_183]; done) | (simp [c_159, c_166, c_183]; omega)), rfl, rfl⟩
            · have c_183 : ¬ (yesN T (kdT T a) (T.2 1 a) n) ≤ 0 := fun h => c_183 ((nI_leI (a := (yesN T (kdT T a) (T.2 1 a) n)) (b := 0) (by omega) (by decide)).mpr h)
              refine lv_iconst (v := 1) hx hb dX8_approves_186 (by decide) ?_
              refine lv_goto (tgt := 191) hx hb dX8_approves_187 (by decide) ?_
              exact k_iret Z X hr hlocks rfl (Nat.le_of_ble_eq_true rfl) (Nat.le_of_ble_eq_true rfl) dX8_approves_191 ⟨bI_t (by subst hn; simp only [appr]; first | (simp [c_159, c_166, c_183]; done) | (simp [c_159, c_166, c_183]; omega)), rfl, rfl⟩
          · have c_166 : (1000 : Int32) < x := Int32.not_le.mp c_166
            refine lv_iload_n hx hb dX8_approves_169 rfl (lv_at hl 3 rfl) ?_
            refine lv_iconst (v := 1) hx hb dX8_approves_170 (by decide) ?_
            refine lv_icmp_le (tgt := 190) hx hb dX8_approves_171 (by decide) (fun c_171 => ?_) (fun c_171 => ?_)
            · have c_171 : (yesN T (kdT T a) (T.2 1 a) n) ≤ 1 := (nI_leI (a := (yesN T (kdT T a) (T.2 1 a) n)) (b := 1) (by omega) (by decide)).mp c_171
              refine lv_iconst (v := 0) hx hb dX8_approves_190 (by decide) ?_
              exact k_iret Z X hr hlocks rfl (Nat.le_of_ble_eq_true rfl) (Nat.le_of_ble_eq_true rfl) dX8_approves_191 ⟨bI_f (by subst hn; simp only [appr]; first | (simp [c_159, c_166, c_171]; done) | (simp [c_159, c_166, c_171]; omega)), rfl, rfl⟩
            · have c_171 : ¬ (yesN T (kdT T a) (T.2 1 a) n) ≤ 1 := fun h => c_171 ((nI_leI (a := (yesN T (kdT T a) (T.2 1 a) n)) (b := 1) (by omega) (by decide)).mpr h)
              refine lv_iload hx hb dX8_approves_174 (lv_at hl 2 rfl) ?_
              refine lv_if_le (tgt := 190) hx hb dX8_approves_176 (by decide) (fun c_176 => ?_) (fun c_176 => ?_)
              · have c_176 : (chfN T (kdT T a) (T.2 1 a) n) ≤ 0 := (nI_leI (a := (chfN T (kdT T a) (T.2 1 a) n)) (b := 0) (by omega) (by decide)).mp c_176
                refine lv_iconst (v := 0) hx hb dX8_approves_190 (by decide) ?_
                exact k_iret Z X hr hlocks rfl (Nat.le_of_ble_eq_true rfl) (Nat.le_of_ble_eq_true rfl) dX8_approves_191 ⟨bI_f (by subst hn; simp only [appr]; first | (simp [c_159, c_166, c_171, c_176]; done) | (simp [c_159, c_166, c_171, c_176]; omega)), rfl, rfl⟩
              · have c_176 : ¬ (chfN T (kdT T a) (T.2 1 a) n) ≤ 0 := fun h => c_176 ((nI_leI (a := (chfN T (kdT T a) (T.2 1 a) n)) (b := 0) (by omega) (by decide)).mpr h)
                refine lv_goto (tgt := 186) hx hb dX8_approves_179 (by decide) ?_
                refine lv_iconst (v := 1) hx hb dX8_approves_186 (by decide) ?_
                refine lv_goto (tgt := 191) hx hb dX8_approves_187 (by decide) ?_
                exact k_iret Z X hr hlocks rfl (Nat.le_of_ble_eq_true rfl) (Nat.le_of_ble_eq_true rfl) dX8_approves_191 ⟨bI_t (by subst hn; simp only [appr]; first | (simp [c_159, c_166, c_171, c_176]; done) | (simp [c_159, c_166, c_171, c_176]; omega)), rfl, rfl⟩
      · have c_17 : ¬ (T.2 0 0) ≤ n := fun h => c_17 ((nI_leI (a := (T.2 0 0)) (b := n) (by omega) (by omega)).mpr h)
        have M_72 : ∀ (H : Heap) (locs : List Loc), kX E G s H locs ad (cto G S T o ad) → W p l e (headSpec (Cond.code yX8_approves cX8_approves 8 (some .boolean) :: wsL_law) ({ frames := 3, cells := 0, slots := 0, locals := 70 } : Room)).room s m ([.ref (ad 16 0), .int (nI a), .int x] : List Value).toArray below meth c H locs 0 0 (MQ below (kQi E G (fun r ad1 ct1 => r = bI (appr T (kdT T a) (T.2 1 a) (T.2 0 0) x) ∧ ad = ad1 ∧ ct1 = cto G S T o ad)) ([.ref (ad 16 0), .int (nI a), .int x] : List Value).toArray s 0 0 (kB E.heap.size)) (F0 m 72 ls [.int (bI (isY T (kdT T a) (T.2 1 a) n))]) := by
          intro H locs X
          refine lv_istore (lv' := [(7, .int (bI (isY T (kdT T a) (T.2 1 a) n))), (6, .int (nI n)), (5, .int (bI (bar T (kdT T a) n))), (4, .int (nI (chfN T (kdT T a) (T.2 1 a) n))), (3, .int (nI (yesN T (kdT T a) (T.2 1 a) n))), (0, .ref (ad 16 0)), (1, .int (nI a)), (2, .int x)]) hx hb dX8_approves_72 hl (by decide) rfl (fun ls hl => ?_)
          have M_110 : ∀ (H : Heap) (locs : List Loc), kX E G s H locs ad (cto G S T o ad) → W p l e (headSpec (Cond.code yX8_approves cX8_approves 8 (some .boolean) :: wsL_law) ({ frames := 3, cells := 0, slots := 0, locals := 70 } : Room)).room s m ([.ref (ad 16 0), .int (nI a), .int x] : List Value).toArray below meth c H locs 0 0 (MQ below (kQi E G (fun r ad1 ct1 => r = bI (appr T (kdT T a) (T.2 1 a) (T.2 0 0) x) ∧ ad = ad1 ∧ ct1 = cto G S T o ad)) ([.ref (ad 16 0), .int (nI a), .int x] : List Value).toArray s 0 0 (kB E.heap.size)) (F0 m 110 ls [.int (bI (bar T (kdT T a) (n + 1)))]) := by
            intro H locs X
            refine lv_istore (lv' := [(5, .int (bI (bar T (kdT T a) (n + 1)))), (7, .int (bI (isY T (kdT T a) (T.2 1 a) n))), (6, .int (nI n)), (4, .int (nI (chfN T (kdT T a) (T.2 1 a) n))), (3, .int (nI (yesN T (kdT T a) (T.2 1 a) n))), (0, .ref (ad 16 0)), (1, .int (nI a)), (2, .int x)]) hx hb dX8_approves_110 hl (by decide) rfl (fun ls hl => ?_)
            refine lv_iload_n hx hb dX8_approves_112 rfl (lv_at hl 4 rfl) ?_
            have M_123 : ∀ (H : Heap) (locs : List Loc), kX E G s H locs ad (cto G S T o ad) → W p l e (headSpec (Cond.code yX8_approves cX8_approves 8 (some .boolean) :: wsL_law) ({ frames := 3, cells := 0, slots := 0, locals := 70 } : Room)).room s m ([.ref (ad 16 0), .int (nI a), .int x] : List Value).toArray below meth c H locs 0 0 (MQ below (kQi E G (fun r ad1 ct1 => r = bI (appr T (kdT T a) (T.2 1 a) (T.2 0 0) x) ∧ ad = ad1 ∧ ct1 = cto G S T o ad)) ([.ref (ad 16 0), .int (nI a), .int x] : List Value).toArray s 0 0 (kB E.heap.size)) (F0 m 123 ls [.int (bI (isY T (kdT T a) (T.2 1 a) n)), .int (nI (yesN T (kdT T a) (T.2 1 a) n))]) := by
              intro H locs X
              refine lv_iadd hx hb dX8_approves_123 ?_
              refine lv_topi (fun x_123 e_123 => ?_)
              obtain rfl : x_123 = nI (yesN T (kdT T a) (T.2 1 a) (n + 1)) := e_123.trans (by cases h : isY T (kdT T a) (T.2 1 a) n <;> simp [yesN, h, bI, nI_1])
              refine lv_istore_n (lv' := [(3, .int (nI (yesN T (kdT T a) (T.2 1 a) (n + 1)))), (5, .int (bI (bar T (kdT T a) (n + 1)))), (7, .int (bI (isY T (kdT T a) (T.2 1 a) n))), (6, .int (nI n)), (4, .int (nI (chfN T (kdT T a) (T.2 1 a) n))), (0, .ref (ad 16 0)), (1, .int (nI a)), (2, .int x)]) hx hb dX8_approves_124 rfl hl (by decide) rfl (fun ls hl => ?_)
              refine lv_iload hx hb dX8_approves_125 (lv_at hl 4 rfl) ?_
              have M_148 : ∀ (H : Heap) (locs : List Loc), kX E G s H locs ad (cto G S T o ad) → W p l e (headSpec (Cond.code yX8_approves cX8_approves 8 (some .boolean) :: wsL_law) ({ frames := 3, cells := 0, slots := 0, locals := 70 } : Room)).room s m ([.ref (ad 16 0), .int (nI a), .int x] : List Value).toArray below meth c H locs 0 0 (MQ below (kQi E G (fun r ad1 ct1 => r = bI (appr T (kdT T a) (T.2 1 a) (T.2 0 0) x) ∧ ad = ad1 ∧ ct1 = cto G S T o ad)) ([.ref (ad 16 0), .int (nI a), .int x] : List Value).toArray s 0 0 (kB E.heap.size)) (F0 m 148 ls [.int (bI (isY T (kdT T a) (T.2 1 a) n && decide (T.1 1 n = 3))), .int (nI (chfN T (kdT T a) (T.2 1 a) n))]) := by
                intro H locs X
                refine lv_iadd hx hb dX8_approves_148 ?_
                refine lv_topi (fun x_148 e_148 => ?_)
                obtain rfl : x_148 = nI (chfN T (kdT T a) (T.2 1 a) (n + 1)) := e_148.trans (by cases h : (isY T (kdT T a) (T.2 1 a) n && decide (T.1 1 n = 3)) <;> simp only [chfN, h, bI] <;> simp [nI_1])
                refine lv_istore (lv' := [(4, .int (nI (chfN T (kdT T a) (T.2 1 a) (n + 1)))), (3, .int (nI (yesN T (kdT T a) (T.2 1 a) (n + 1)))), (5, .int (bI (bar T (kdT T a) (n + 1)))), (7, .int (bI (isY T (kdT T a) (T.2 1 a) n))), (6, .int (nI n)), (0, .ref (ad 16 0)), (1, .int (nI a)), (2, .int x)]) hx hb dX8_approves_149 hl (by decide) rfl (fun ls hl => ?_)
                refine lv_iinc (v := (nI (n + 1))) (lv' := [(6, .int (nI (n + 1))), (4, .int (nI (chfN T (kdT T a) (T.2 1 a) (n + 1)))), (3, .int (nI (yesN T (kdT T a) (T.2 1 a) (n + 1)))), (5, .int (bI (bar T (kdT T a) (n + 1)))), (7, .int (bI (isY T (kdT T a) (T.2 1 a) n))), (0, .ref (ad 16 0)), (1, .int (nI a)), (2, .int x)]) hx hb dX8_approves_151 hl (k := 4) rfl (nI_1 _) (by decide) rfl (fun ls hl => ?_)
                refine lv_goto (tgt := 11) hx hb dX8_approves_154 (by decide) ?_
                exact ih (n + 1) (by omega) (by omega) _ _ _ X (lv_sub hl [0, 3, 1, 2, 5, 6, 7] rfl)
              refine lv_iload hx hb dX8_approves_127 (lv_at hl 2 rfl) ?_
              refine lv_if_eq (tgt := 147) hx hb dX8_approves_129 (by decide) (fun c_129 => ?_) (fun c_129 => ?_)
              · have c_129 : (isY T (kdT T a) (T.2 1 a) n) = false := bI_0 c_129
                refine lv_iconst (v := 0) hx hb dX8_approves_147 (by decide) ?_
                exact W.eq (congrArg (fun z => F0 m 148 ls (.int z :: [.int (nI (chfN T (kdT T a) (T.2 1 a) n))])) (bI_f (by simp [c_17, c_129]))) (M_148 H locs X)
              · have c_129 : (isY T (kdT T a) (T.2 1 a) n) = true := bI_1 c_129
                refine lv_aload_n hx hb dX8_approves_132 rfl (lv_at hl 5 rfl) ?_
                refine k_get (index := 7) (j := 2) (ad := ad) (k := 16) (i := 0) Z X ct_16 inlX8 rfl (by decide) (inU_6 _ (List.mem_of_getElem? (i := 6) rfl)) (fun _ h => h) rfl dX8_approves_133 ?_
                refine lv_iload hx hb dX8_approves_136 (lv_at hl 3 rfl) ?_
                refine k_ild (ad := ad) (k := 17) (i := 0) Z X ct_17_0 (vp_in_nI (by first | assumption | omega) (by decide)) dX8_approves_138 ?_
                refine lv_topi (fun x_138 e_138 => ?_)
                obtain rfl : x_138 = T.1 1 n := e_138.trans (by simp only [nI_clamp (show n < 2 ^ 31 by omega)])
                refine lv_iconst (v := 3) hx hb dX8_approves_139 (by decide) ?_
                refine lv_icmp_ne (tgt := 147) hx hb dX8_approves_140 (by decide) (fun c_140 => ?_) (fun c_140 => ?_)
                · refine lv_iconst (v := 0) hx hb dX8_approves_147 (by decide) ?_
                  exact W.eq (congrArg (fun z => F0 m 148 ls (.int z :: [.int (nI (chfN T (kdT T a) (T.2 1 a) n))])) (bI_f (by simp [c_17, c_129, c_140]))) (M_148 H locs X)
                · refine lv_iconst (v := 1) hx hb dX8_approves_143 (by decide) ?_
                  refine lv_goto (tgt := 148) hx hb dX8_approves_144 (by decide) ?_
                  exact W.eq (congrArg (fun z => F0 m 148 ls (.int z :: [.int (nI (chfN T (kdT T a) (T.2 1 a) n))])) (bI_t (by simp [c_17, c_129, c_140]))) (M_148 H locs X)
            refine lv_iload hx hb dX8_approves_113 (lv_at hl 1 rfl) ?_
            refine lv_if_eq (tgt := 122) hx hb dX8_approves_115 (by decide) (fun c_115 => ?_) (fun c_115 => ?_)
            · have c_115 : (isY T (kdT T a) (T.2 1 a) n) = false := bI_0 c_115
              refine lv_iconst (v := 0) hx hb dX8_approves_122 (by decide) ?_
              exact W.eq (congrArg (fun z => F0 m 123 ls (.int z :: [.int (nI (yesN T (kdT T a) (T.2 1 a) n))])) (bI_f c_115)) (M_123 H locs X)
            · have c_115 : (isY T (kdT T a) (T.2 1 a) n) = true := bI_1 c_115
              refine lv_iconst (v := 1) hx hb dX8_approves_118 (by decide) ?_
              refine lv_goto (tgt := 123) hx hb dX8_approves_119 (by decide) ?_
              exact W.eq (congrArg (fun z => F0 m 123 ls (.int z :: [.int (nI (yesN T (kdT T a) (T.2 1 a) n))])) (bI_t c_115)) (M_123 H locs X)
          refine lv_iload hx hb dX8_approves_74 (lv_at hl 2 rfl) ?_
          refine lv_if_ne (tgt := 105) hx hb dX8_approves_76 (by decide) (fun c_76 => ?_) (fun c_76 => ?_)
          · have c_76 : (bar T (kdT T a) n) = true := bI_1 c_76
            refine lv_iconst (v := 1) hx hb dX8_approves_105 (by decide) ?_
            refine lv_goto (tgt := 110) hx hb dX8_approves_106 (by decide) ?_
            exact W.eq (congrArg (fun z => F0 m 110 ls (.int z :: [])) (bI_t (by simp [bar, c_17, c_76]))) (M_110 H locs X)
          · have c_76 : (bar T (kdT T a) n) = false := bI_0 c_76
            refine lv_aload_n hx hb dX8_approves_79 rfl (lv_at hl 5 rfl) ?_
            refine lv_iload_n hx hb dX8_approves_80 rfl (lv_at hl 6 rfl) ?_
            refine lv_iload hx hb dX8_approves_81 (lv_at hl 1 rfl) ?_
            refine k_Ri X (k_runV (As := [.int (nI a), .int (nI n)]) (rest := []) Z X (c_X8_counts l E G S T o ad a n ha (by omega)) (k_cwV 2 Z.1.2.2.2.2 (inU_12 _ (List.mem_of_getElem? (i := 22) rfl)) (inU_12 _ (List.mem_of_getElem? (i := 23) rfl)) (inU_13 _ (List.mem_of_getElem? (i := 0) rfl)) (inU_1 _ (List.mem_of_getElem? (i := 5) rfl)) (inU_13 _ (List.mem_of_getElem? (i := 1) rfl)) rfl rfl (by decide +kernel) ⟨Nat.le_of_ble_eq_true rfl, Nat.le_of_ble_eq_true rfl⟩) (k_recv Z X ct_16 rfl) rfl hl.1 rfl (Nat.le_of_ble_eq_true rfl) dX8_approves_83 ⟨Nat.le_of_ble_eq_true rfl, Nat.le_of_ble_eq_true rfl⟩) (fun r_83 ad1 ct1 H locs hp X => ?_)
            obtain ⟨rfl, rfl, rfl⟩ := hp
            refine lv_if_eq (tgt := 109) hx hb dX8_approves_86 (by decide) (fun c_86 => ?_) (fun c_86 => ?_)
            · have c_86 : cnts T (kdT T a) n = false := bI_0 c_86
              refine lv_iconst (v := 0) hx hb dX8_approves_109 (by decide) ?_
              exact W.eq (congrArg (fun z => F0 m 110 ls (.int z :: [])) (bI_f (by simp [bar, c_17, c_76, c_86]))) (M_110 H locs X)
            · have c_86 : cnts T (kdT T a) n = true := bI_1 c_86
              have hk := kdT_of c_86
              refine lv_aload_n hx hb dX8_approves_89 rfl (lv_at hl 5 rfl) ?_
              refine k_get (index := 41) (j := 13) (ad := ad) (k := 16) (i := 0) Z X ct_16 inlX8 rfl (by decide) (inU_6 _ (List.mem_of_getElem? (i := 17) rfl)) (fun _ h => h) rfl dX8_approves_90 ?_
              refine lv_bipush (v := 12) hx hb dX8_approves_93 (by decide) ?_
              refine lv_iload_n hx hb dX8_approves_95 rfl (lv_at hl 6 rfl) ?_
              refine lv_imul hx hb dX8_approves_96 ?_
              refine lv_iload hx hb dX8_approves_97 (lv_at hl 1 rfl) ?_
              refine lv_iadd hx hb dX8_approves_99 ?_
              refine lv_topi (fun x_99 e_99 => ?_)
              obtain rfl : x_99 = nI (12 * a + n) := e_99.trans (by rw [show (12 : Int32) = nI 12 from rfl, pk_mul, nI_add])
              refine k_ild (ad := ad) (k := 17) (i := 10) Z X ct_17_10 (vp_in_nI (by first | assumption | omega) (by decide)) dX8_approves_100 ?_
              refine lv_topi (fun x_100 e_100 => ?_)
              obtain rfl : x_100 = T.1 21 (12 * a + n) := e_100.trans (by simp only [nI_clamp (show 12 * a + n < 2 ^ 31 by omega)])
              refine lv_iconst (v := 1) hx hb dX8_approves_101 (by decide) ?_
              refine lv_icmp_ne (tgt := 109) hx hb dX8_approves_102 (by decide) (fun c_102 => ?_) (fun c_102 => ?_)
              · refine lv_iconst (v := 0) hx hb dX8_approves_109 (by decide) ?_
                exact W.eq (congrArg (fun z => F0 m 110 ls (.int z :: [])) (bI_f (by simp [bar, c_17, c_76, c_86, c_102, hk]))) (M_110 H locs X)
              · refine lv_iconst (v := 1) hx hb dX8_approves_105 (by decide) ?_
                refine lv_goto (tgt := 110) hx hb dX8_approves_106 (by decide) ?_
                exact W.eq (congrArg (fun z => F0 m 110 ls (.int z :: [])) (bI_t (by simp [bar, c_17, c_76, c_86, c_102, hk]))) (M_110 H locs X)
        refine lv_aload_n hx hb dX8_approves_20 rfl (lv_at hl 4 rfl) ?_
        refine lv_iload_n hx hb dX8_approves_21 rfl (lv_at hl 5 rfl) ?_
        refine lv_iload hx hb dX8_approves_22 (lv_at hl 0 rfl) ?_
        refine k_Ri X (k_runV (As := [.int (nI a), .int (nI n)]) (rest := []) Z X (c_X8_counts l E G S T o ad a n ha (by omega)) (k_cwV 2 Z.1.2.2.2.2 (inU_12 _ (List.mem_of_getElem? (i := 22) rfl)) (inU_12 _ (List.mem_of_getElem? (i := 23) rfl)) (inU_13 _ (List.mem_of_getElem? (i := 0) rfl)) (inU_1 _ (List.mem_of_getElem? (i := 5) rfl)) (inU_13 _ (List.mem_of_getElem? (i := 1) rfl)) rfl rfl (by decide +kernel) ⟨Nat.le_of_ble_eq_true rfl, Nat.le_of_ble_eq_true rfl⟩) (k_recv Z X ct_16 rfl) rfl hl.1 rfl (Nat.le_of_ble_eq_true rfl) dX8_approves_24 ⟨Nat.le_of_ble_eq_true rfl, Nat.le_of_ble_eq_true rfl⟩) (fun r_24 ad1 ct1 H locs hp X => ?_)
        obtain ⟨rfl, rfl, rfl⟩ := hp
        refine lv_if_eq (tgt := 71) hx hb dX8_approves_27 (by decide) (fun c_27 => ?_) (fun c_27 => ?_)
        · have c_27 : cnts T (kdT T a) n = false := bI_0 c_27
          refine lv_iconst (v := 0) hx hb dX8_approves_71 (by decide) ?_
          exact W.eq (congrArg (fun z => F0 m 72 ls (.int z :: [])) (bI_f (by simp [isY, c_17, c_27]))) (M_72 H locs X)
        · have c_27 : cnts T (kdT T a) n = true := bI_1 c_27
          have hk := kdT_of c_27
          refine lv_aload_n hx hb dX8_approves_30 rfl (lv_at hl 4 rfl) ?_
          refine k_get (index := 41) (j := 13) (ad := ad) (k := 16) (i := 0) Z X ct_16 inlX8 rfl (by decide) (inU_6 _ (List.mem_of_getElem? (i := 17) rfl)) (fun _ h => h) rfl dX8_approves_31 ?_
          refine lv_bipush (v := 12) hx hb dX8_approves_34 (by decide) ?_
          refine lv_iload_n hx hb dX8_approves_36 rfl (lv_at hl 5 rfl) ?_
          refine lv_imul hx hb dX8_approves_37 ?_
          refine lv_iload hx hb dX8_approves_38 (lv_at hl 0 rfl) ?_
          refine lv_iadd hx hb dX8_approves_40 ?_
          refine lv_topi (fun x_40 e_40 => ?_)
          obtain rfl : x_40 = nI (12 * a + n) := e_40.trans (by rw [show (12 : Int32) = nI 12 from rfl, pk_mul, nI_add])
          refine k_ild (ad := ad) (k := 17) (i := 10) Z X ct_17_10 (vp_in_nI (by first | assumption | omega) (by decide)) dX8_approves_41 ?_
          refine lv_topi (fun x_41 e_41 => ?_)
          obtain rfl : x_41 = T.1 21 (12 * a + n) := e_41.trans (by simp only [nI_clamp (show 12 * a + n < 2 ^ 31 by omega)])
          refine lv_if_ne (tgt := 71) hx hb dX8_approves_42 (by decide) (fun c_42 => ?_) (fun c_42 => ?_)
          · refine lv_iconst (v := 0) hx hb dX8_approves_71 (by decide) ?_
            exact W.eq (congrArg (fun z => F0 m 72 ls (.int z :: [])) (bI_f (by simp [isY, c_17, c_27, c_42, hk]))) (M_72 H locs X)
          · refine lv_aload_n hx hb dX8_approves_45 rfl (lv_at hl 4 rfl) ?_
            refine k_get (index := 7) (j := 2) (ad := ad) (k := 16) (i := 0) Z X ct_16 inlX8 rfl (by decide) (inU_6 _ (List.mem_of_getElem? (i := 6) rfl)) (fun _ h => h) rfl dX8_approves_46 ?_
            refine lv_iload hx hb dX8_approves_49 (lv_at hl 0 rfl) ?_
            refine k_ild (ad := ad) (k := 17) (i := 0) Z X ct_17_0 (vp_in_nI (by first | assumption | omega) (by decide)) dX8_approves_51 ?_
            refine lv_topi (fun x_51 e_51 => ?_)
            obtain rfl : x_51 = T.1 1 n := e_51.trans (by simp only [nI_clamp (show n < 2 ^ 31 by omega)])
            refine lv_iconst (v := 2) hx hb dX8_approves_52 (by decide) ?_
            refine lv_icmp_lt (tgt := 71) hx hb dX8_approves_53 (by decide) (fun c_53 => ?_) (fun c_53 => ?_)
            · refine lv_iconst (v := 0) hx hb dX8_approves_71 (by decide) ?_
              exact W.eq (congrArg (fun z => F0 m 72 ls (.int z :: [])) (bI_f (by simp [isY, c_17, c_27, c_42, c_53, hk]))) (M_72 H locs X)
            · refine lv_iload hx hb dX8_approves_56 (lv_at hl 0 rfl) ?_
              refine lv_aload_n hx hb dX8_approves_58 rfl (lv_at hl 4 rfl) ?_
              refine k_get (index := 23) (j := 7) (ad := ad) (k := 16) (i := 0) Z X ct_16 inlX8 rfl (by decide) (inU_6 _ (List.mem_of_getElem? (i := 11) rfl)) (fun _ h => h) rfl dX8_approves_59 ?_
              refine lv_iload_n hx hb dX8_approves_62 rfl (lv_at hl 5 rfl) ?_
              refine k_ild (ad := ad) (k := 17) (i := 4) Z X ct_17_4 (vp_in_nI (by first | assumption | omega) (by decide)) dX8_approves_63 ?_
              refine lv_topi (fun x_63 e_63 => ?_)
              obtain rfl : x_63 = nI (T.2 1 a) := e_63.trans (by simp only [nI_clamp (show a < 2 ^ 31 by omega)])
              refine lv_icmp_eq (tgt := 71) hx hb dX8_approves_64 (by decide) (fun c_64 => ?_) (fun c_64 => ?_)
              · have c_64 : n = (T.2 1 a) := (nI_eq (a := n) (b := (T.2 1 a)) (by omega) (by omega)).mp c_64
                refine lv_iconst (v := 0) hx hb dX8_approves_71 (by decide) ?_
                exact W.eq (congrArg (fun z => F0 m 72 ls (.int z :: [])) (bI_f (by simp [isY, c_17, c_27, c_42, c_53, c_64, hk]))) (M_72 H locs X)
              · have c_64 : ¬ n = (T.2 1 a) := fun h => c_64 ((nI_eq (a := n) (b := (T.2 1 a)) (by omega) (by omega)).mpr h)
                refine lv_iconst (v := 1) hx hb dX8_approves_67 (by decide) ?_
                refine lv_goto (tgt := 72) hx hb dX8_approves_68 (by decide) ?_
                exact W.eq (congrArg (fun z => F0 m 72 ls (.int z :: [])) (bI_t (by simp [isY, c_17, c_27, c_42, c_53, c_64, hk]))) (M_72 H locs X)
  exact LOOP_11 (T.2 0 0 + 1) 0 (by omega) (by omega) _ _ _ X (lv_sub hl [0, 1, 2, 3, 4, 5, 6] rfl)
theorem stl_r (S : kSt) (kd : Nat → Nat → Int32) : ∀ n, (stl S kd n).2 = S.2 ∧ (∀ f j, f ≠ 12 → f ≠ 3 → (stl S kd n).1 f j = S.1 f j) ∧ ∀ j, n ≤ j → (stl S kd n).1 12 j = S.1 12 j
  | 0 => ⟨rfl, fun _ _ _ _ => rfl, fun _ _ => rfl⟩
  | n + 1 => by
    obtain ⟨h1, h2, h3⟩ := stl_r S kd n
    refine ⟨?_, fun f j ha hb => ?_, fun j hj => ?_⟩
    · simp only [stl, stl1]
      split
      · exact h1
      · exact h1
    · simp only [stl, stl1]
      split
      · simp [sI, ha, hb, h2 f j ha hb]
      · exact h2 f j ha hb
    · simp only [stl, stl1]
      split
      · have : j ≠ n := by omega
        simp [sI, this, h3 j (by omega)]
      · exact h3 j (by omega)
theorem gone_c {S S' : kSt} (h0 : S'.1 0 0 = S.1 0 0) (h2 : ∀ j, S'.1 2 j = S.1 2 j) (u : Nat) : gone S' u = gone S u := by simp only [gone, h0, h2]
theorem cnts_c {S S' : kSt} (h0 : S'.1 0 0 = S.1 0 0) (h1 : ∀ j, S'.1 1 j = S.1 1 j) (h2 : ∀ j, S'.1 2 j = S.1 2 j) {kd kd' : Nat → Int32} {u : Nat} (hk : kd' u = kd u) : cnts S' kd' u = cnts S kd u := by simp only [cnts, gone_c h0 h2, h1, hk]
theorem bar_c {S S' : kSt} (h0 : S'.1 0 0 = S.1 0 0) (h1 : ∀ j, S'.1 1 j = S.1 1 j) (h2 : ∀ j, S'.1 2 j = S.1 2 j) {kd kd' : Nat → Int32} : ∀ {n : Nat}, (∀ u, u < n → kd' u = kd u) → bar S' kd' n = bar S kd n
  | 0, _ => rfl
  | n + 1, hk => by
    have ih := bar_c h0 h1 h2 (n := n) (fun u hu => hk u (Nat.lt_succ_of_lt hu))
    simp only [bar, ih, cnts_c h0 h1 h2 (hk n (by omega)), hk n (by omega)]
theorem isY_c {S S' : kSt} (h0 : S'.1 0 0 = S.1 0 0) (h1 : ∀ j, S'.1 1 j = S.1 1 j) (h2 : ∀ j, S'.1 2 j = S.1 2 j) {kd kd' : Nat → Int32} {u a : Nat} (hk : kd' u = kd u) : isY S' kd' a u = isY S kd a u := by simp only [isY, cnts_c h0 h1 h2 hk, h1, hk]
theorem yesN_c {S S' : kSt} (h0 : S'.1 0 0 = S.1 0 0) (h1 : ∀ j, S'.1 1 j = S.1 1 j) (h2 : ∀ j, S'.1 2 j = S.1 2 j) {kd kd' : Nat → Int32} {a : Nat} : ∀ {n : Nat}, (∀ u, u < n → kd' u = kd u) → yesN S' kd' a n = yesN S kd a n
  | 0, _ => rfl
  | n + 1, hk => by
    have ih := yesN_c h0 h1 h2 (a := a) (n := n) (fun u hu => hk u (Nat.lt_succ_of_lt hu))
    simp only [yesN, ih, isY_c h0 h1 h2 (hk n (by omega))]
theorem chfN_c {S S' : kSt} (h0 : S'.1 0 0 = S.1 0 0) (h1 : ∀ j, S'.1 1 j = S.1 1 j) (h2 : ∀ j, S'.1 2 j = S.1 2 j) {kd kd' : Nat → Int32} {a : Nat} : ∀ {n : Nat}, (∀ u, u < n → kd' u = kd u) → chfN S' kd' a n = chfN S kd a n
  | 0, _ => rfl
  | n + 1, hk => by
    have ih := chfN_c h0 h1 h2 (a := a) (n := n) (fun u hu => hk u (Nat.lt_succ_of_lt hu))
    simp only [chfN, ih, isY_c h0 h1 h2 (hk n (by omega)), h1]
theorem cntN_c {S S' : kSt} (h0 : S'.1 0 0 = S.1 0 0) (h1 : ∀ j, S'.1 1 j = S.1 1 j) (h2 : ∀ j, S'.1 2 j = S.1 2 j) {kd kd' : Nat → Int32} : ∀ {n : Nat}, (∀ u, u < n → kd' u = kd u) → cntN S' kd' n = cntN S kd n
  | 0, _ => rfl
  | n + 1, hk => by
    have ih := cntN_c h0 h1 h2 (n := n) (fun u hu => hk u (Nat.lt_succ_of_lt hu))
    simp only [cntN, ih, cnts_c h0 h1 h2 (hk n (by omega))]
/-- what approves looks at alone decides -/
theorem appr_c {S S' : kSt} (h0 : S'.1 0 0 = S.1 0 0) (h1 : ∀ j, S'.1 1 j = S.1 1 j) (h2 : ∀ j, S'.1 2 j = S.1 2 j) {kd kd' : Nat → Int32} {a n : Nat} {x : Int32} (hk : ∀ u, u < n → kd' u = kd u) : appr S' kd' a n x = appr S kd a n x := by
  simp only [appr, bar_c h0 h1 h2 hk, yesN_c h0 h1 h2 hk, chfN_c h0 h1 h2 hk]
theorem dX8_settles_0 : decode cX8_settles 0 = .ok (.iconst 0, 1) := by decide +kernel
theorem dX8_settles_1 : decode cX8_settles 1 = .ok (.istore_n 1, 1) := by decide +kernel
theorem dX8_settles_2 : decode cX8_settles 2 = .ok (.iload_n 1, 1) := by decide +kernel
theorem dX8_settles_3 : decode cX8_settles 3 = .ok (.aload_n 0, 1) := by decide +kernel
theorem dX8_settles_4 : decode cX8_settles 4 = .ok (.getfield 102, 3) := by decide +kernel
theorem dX8_settles_7 : decode cX8_settles 7 = .ok (.if_icmp .ge 81, 3) := by decide +kernel
theorem dX8_settles_10 : decode cX8_settles 10 = .ok (.aload_n 0, 1) := by decide +kernel
theorem dX8_settles_11 : decode cX8_settles 11 = .ok (.getfield 47, 3) := by decide +kernel
theorem dX8_settles_14 : decode cX8_settles 14 = .ok (.iload_n 1, 1) := by decide +kernel
theorem dX8_settles_15 : decode cX8_settles 15 = .ok (.iaload, 1) := by decide +kernel
theorem dX8_settles_16 : decode cX8_settles 16 = .ok (.istore_n 2, 1) := by decide +kernel
theorem dX8_settles_17 : decode cX8_settles 17 = .ok (.aload_n 0, 1) := by decide +kernel
theorem dX8_settles_18 : decode cX8_settles 18 = .ok (.getfield 56, 3) := by decide +kernel
theorem dX8_settles_21 : decode cX8_settles 21 = .ok (.iload_n 1, 1) := by decide +kernel
theorem dX8_settles_22 : decode cX8_settles 22 = .ok (.baload, 1) := by decide +kernel
theorem dX8_settles_23 : decode cX8_settles 23 = .ok (.ifCond .ne 59, 3) := by decide +kernel
theorem dX8_settles_26 : decode cX8_settles 26 = .ok (.aload_n 0, 1) := by decide +kernel
theorem dX8_settles_27 : decode cX8_settles 27 = .ok (.getfield 32, 3) := by decide +kernel
theorem dX8_settles_30 : decode cX8_settles 30 = .ok (.iload_n 2, 1) := by decide +kernel
theorem dX8_settles_31 : decode cX8_settles 31 = .ok (.iaload, 1) := by decide +kernel
theorem dX8_settles_32 : decode cX8_settles 32 = .ok (.aload_n 0, 1) := by decide +kernel
theorem dX8_settles_33 : decode cX8_settles 33 = .ok (.getfield 50, 3) := by decide +kernel
theorem dX8_settles_36 : decode cX8_settles 36 = .ok (.iload_n 1, 1) := by decide +kernel
theorem dX8_settles_37 : decode cX8_settles 37 = .ok (.iaload, 1) := by decide +kernel
theorem dX8_settles_38 : decode cX8_settles 38 = .ok (.if_icmp .ne 17, 3) := by decide +kernel
theorem dX8_settles_41 : decode cX8_settles 41 = .ok (.aload_n 0, 1) := by decide +kernel
theorem dX8_settles_42 : decode cX8_settles 42 = .ok (.iload_n 2, 1) := by decide +kernel
theorem dX8_settles_43 : decode cX8_settles 43 = .ok (.aload_n 0, 1) := by decide +kernel
theorem dX8_settles_44 : decode cX8_settles 44 = .ok (.getfield 53, 3) := by decide +kernel
theorem dX8_settles_47 : decode cX8_settles 47 = .ok (.iload_n 1, 1) := by decide +kernel
theorem dX8_settles_48 : decode cX8_settles 48 = .ok (.iaload, 1) := by decide +kernel
theorem dX8_settles_49 : decode cX8_settles 49 = .ok (.invokevirtual 105, 3) := by decide +kernel
theorem dX8_settles_52 : decode cX8_settles 52 = .ok (.ifCond .ne 30, 3) := by decide +kernel
theorem dX8_settles_55 : decode cX8_settles 55 = .ok (.aload_n 0, 1) := by decide +kernel
theorem dX8_settles_56 : decode cX8_settles 56 = .ok (.getfield 56, 3) := by decide +kernel
theorem dX8_settles_59 : decode cX8_settles 59 = .ok (.iload_n 1, 1) := by decide +kernel
theorem dX8_settles_60 : decode cX8_settles 60 = .ok (.iconst 1, 1) := by decide +kernel
theorem dX8_settles_61 : decode cX8_settles 61 = .ok (.bastore, 1) := by decide +kernel
theorem dX8_settles_62 : decode cX8_settles 62 = .ok (.aload_n 0, 1) := by decide +kernel
theorem dX8_settles_63 : decode cX8_settles 63 = .ok (.getfield 16, 3) := by decide +kernel
theorem dX8_settles_66 : decode cX8_settles 66 = .ok (.aload_n 0, 1) := by decide +kernel
theorem dX8_settles_67 : decode cX8_settles 67 = .ok (.getfield 26, 3) := by decide +kernel
theorem dX8_settles_70 : decode cX8_settles 70 = .ok (.iload_n 2, 1) := by decide +kernel
theorem dX8_settles_71 : decode cX8_settles 71 = .ok (.iaload, 1) := by decide +kernel
theorem dX8_settles_72 : decode cX8_settles 72 = .ok (.dup2, 1) := by decide +kernel
theorem dX8_settles_73 : decode cX8_settles 73 = .ok (.iaload, 1) := by decide +kernel
theorem dX8_settles_74 : decode cX8_settles 74 = .ok (.aload_n 0, 1) := by decide +kernel
theorem dX8_settles_75 : decode cX8_settles 75 = .ok (.getfield 53, 3) := by decide +kernel
theorem dX8_settles_78 : decode cX8_settles 78 = .ok (.iload_n 1, 1) := by decide +kernel
theorem dX8_settles_79 : decode cX8_settles 79 = .ok (.iaload, 1) := by decide +kernel
theorem dX8_settles_80 : decode cX8_settles 80 = .ok (.iadd, 1) := by decide +kernel
theorem dX8_settles_81 : decode cX8_settles 81 = .ok (.iastore, 1) := by decide +kernel
theorem dX8_settles_82 : decode cX8_settles 82 = .ok (.iinc 1 1, 3) := by decide +kernel
theorem dX8_settles_85 : decode cX8_settles 85 = .ok (.goto (-83), 3) := by decide +kernel
theorem dX8_settles_88 : decode cX8_settles 88 = .ok (.return_, 1) := by decide +kernel
set_option maxHeartbeats 4000000 in
set_option maxRecDepth 100000 in
theorem c_X8_settles (l : Launch) (E : State) (G : kG) (S T : kSt) (o : Int64) (ad : kAd) (hT : okN T) : Met l yX8_settles (.code yX8_settles cX8_settles 3 none :: wsL_law) ({ frames := 4, cells := 0, slots := 0, locals := 100 } : Room) (va_Pc [.ref (ad 16 0)] (kPre E G ad (cto G S T o ad))) (kQv E G (fun ad1 ct1 => ad = ad1 ∧ ct1 = cto G S (stl T (kdT T) (T.2 0 2)) o ad)) 0 0 (kB E.heap.size) := by
  refine Met.ofW (cc := cX8_settles) (maxL := 3) (ret := none) (by decide) rfl ?_
  intro p e s m args below meth c s₁ B hml hv
  obtain ⟨rfl, hM, hK, hW0⟩ := hv
  have hlocks := B.notSynchronized
  have hr := B.returns
  have Z : kZ p m c cX8_settles 3 s _ wsL_law RX8 E G := ⟨⟨B.exec, B.bytes, hml, findClass_of_methodNamed B.named, fun w h => atoms_spec (ws := .code yX8_settles cX8_settles 3 none :: wsL_law) B.pre w (List.mem_cons_of_mem _ h)⟩, hM, hK⟩
  have hx := Z.1.1
  have hb := Z.1.2.1
  have X := kX.of hW0
  have hl := lv_entry ([.ref (ad 16 0)]) (n := 3) (Nat.le_of_ble_eq_true rfl)
  rw [lg_entry_eq]
  generalize (lg_sl ([.ref (ad 16 0)]) ++ List.replicate (3 - (lg_sl ([.ref (ad 16 0)])).length) Slot.unset).toArray = ls at hl ⊢
  have hl : lv_has ls 3 [(0, .ref (ad 16 0))] := hl
  obtain ⟨hT1, hT2, hT3, hT4, hT5, hT6, hT7⟩ := hT
  refine lv_iconst (v := 0) hx hb dX8_settles_0 (by decide) ?_
  refine lv_istore_n (lv' := [(1, .int 0), (0, .ref (ad 16 0))]) hx hb dX8_settles_1 rfl hl (by decide) rfl (fun ls hl => ?_)
  have LOOP_2 : ∀ (d : Nat) (n : Nat), n ≤ T.2 0 2 → T.2 0 2 < n + d → ∀ (H : Heap) (locs : List Loc) (ls : Array Slot), kX E G s H locs ad (cto G S (stl T (kdT T) n) o ad) → lv_has ls 3 [(1, .int (nI n)), (0, .ref (ad 16 0))] → W p l e (headSpec (Cond.code yX8_settles cX8_settles 3 none :: wsL_law) ({ frames := 4, cells := 0, slots := 0, locals := 100 } : Room)).room s m ([.ref (ad 16 0)] : List Value).toArray below meth c H locs 0 0 (MQ below (kQv E G (fun ad1 ct1 => ad = ad1 ∧ ct1 = cto G S (stl T (kdT T) (T.2 0 2)) o ad)) ([.ref (ad 16 0)] : List Value).toArray s 0 0 (kB E.heap.size)) (F0 m 2 ls []) := by
    intro d
    induction d with
    | zero => intro n h1 h2; intros; exact absurd h2 (by omega)
    | succ d ih =>
      intro n h1 h2 H locs ls X hl
      obtain ⟨s2, s1, s12⟩ := stl_r T (kdT T) n
      generalize hTn : stl T (kdT T) n = Tn at X s2 s1 s12
      refine lv_iload_n hx hb dX8_settles_2 rfl (lv_at hl 0 rfl) ?_
      refine lv_aload_n hx hb dX8_settles_3 rfl (lv_at hl 1 rfl) ?_
      refine k_get (index := 102) (j := 15) (ad := ad) (k := 16) (i := 0) Z X ct_16 inlX8 rfl (by decide) (inU_12 _ (List.mem_of_getElem? (i := 17) rfl)) (fun _ h => h) rfl dX8_settles_4 ?_
      refine lv_icmp_ge (tgt := 88) hx hb dX8_settles_7 (by decide) (fun c_7 => ?_) (fun c_7 => ?_)
      · have c_7 : (Tn.2 0 2) ≤ n := (nI_leI (a := (Tn.2 0 2)) (b := n) (by rw [s2]; omega) (by omega)).mp c_7
        rw [s2] at c_7
        have hn : n = T.2 0 2 := by omega
        subst hn
        exact k_vret Z X hr hlocks (Nat.le_of_ble_eq_true rfl) (Nat.le_of_ble_eq_true rfl) dX8_settles_88 ⟨rfl, by rw [hTn]⟩
      · have c_7 : ¬ (Tn.2 0 2) ≤ n := fun h => c_7 ((nI_leI (a := (Tn.2 0 2)) (b := n) (by rw [s2]; omega) (by omega)).mpr h)
        rw [s2] at c_7
        have hm := hT6 n (by omega)
        have hmm := hT5 _ hm
        have e3 : Tn.2 3 = T.2 3 := by rw [s2]
        refine lv_aload_n hx hb dX8_settles_10 rfl (lv_at hl 1 rfl) ?_
        refine k_get (index := 47) (j := 16) (ad := ad) (k := 16) (i := 0) Z X ct_16 inlX8 rfl (by decide) (inU_6 _ (List.mem_of_getElem? (i := 19) rfl)) (fun _ h => h) rfl dX8_settles_11 ?_
        refine lv_iload_n hx hb dX8_settles_14 rfl (lv_at hl 0 rfl) ?_
        refine k_ild (ad := ad) (k := 17) (i := 12) Z X ct_17_12 (vp_in_nI (by first | assumption | omega) (by decide)) dX8_settles_15 ?_
        refine lv_topi (fun x_15 e_15 => ?_)
        obtain rfl : x_15 = nI (Tn.2 3 n) := e_15.trans (by simp only [nI_clamp (show n < 2 ^ 31 by omega)])
        refine lv_topi (fun x_15 e_15 => ?_)
        obtain rfl : x_15 = nI (T.2 3 n) := e_15.trans (by rw [s2])
        refine lv_istore_n (lv' := [(2, .int (nI (T.2 3 n))), (1, .int (nI n)), (0, .ref (ad 16 0))]) hx hb dX8_settles_16 rfl hl (by decide) rfl (fun ls hl => ?_)
        refine lv_aload_n hx hb dX8_settles_17 rfl (lv_at hl 2 rfl) ?_
        refine k_get (index := 56) (j := 19) (ad := ad) (k := 16) (i := 0) Z X ct_16 inlX8 rfl (by decide) (inU_6 _ (List.mem_of_getElem? (i := 22) rfl)) (fun _ h => h) rfl dX8_settles_18 ?_
        refine lv_iload_n hx hb dX8_settles_21 rfl (lv_at hl 1 rfl) ?_
        refine k_zld (ad := ad) (k := 17) (i := 15) Z X ct_17_15 (vp_in_nI (by first | assumption | omega) (by decide)) dX8_settles_22 ?_
        refine lv_topi (fun x_22 e_22 => ?_)
        obtain rfl : x_22 = Tn.1 12 n := e_22.trans (by simp only [nI_clamp (show n < 2 ^ 31 by omega)])
        refine lv_if_ne (tgt := 82) hx hb dX8_settles_23 (by decide) (fun c_23 => ?_) (fun c_23 => ?_)
        · refine lv_iinc (v := (nI (n + 1))) (lv' := [(1, .int (nI (n + 1))), (2, .int (nI (T.2 3 n))), (0, .ref (ad 16 0))]) hx hb dX8_settles_82 hl (k := 1) rfl (nI_1 _) (by decide) rfl (fun ls hl => ?_)
          refine lv_goto (tgt := 2) hx hb dX8_settles_85 (by decide) ?_
          have hs : stl T (kdT T) (n + 1) = Tn := by simp only [stl, hTn, stl1]; refine if_neg ?_; rw [s2]; simp only [s2] at *; simp [c_23]
          exact ih (n + 1) (by omega) (by omega) _ _ _ (hs ▸ X) (lv_sub hl [0, 2] rfl)
        · refine lv_aload_n hx hb dX8_settles_26 rfl (lv_at hl 2 rfl) ?_
          refine k_get (index := 32) (j := 10) (ad := ad) (k := 16) (i := 0) Z X ct_16 inlX8 rfl (by decide) (inU_6 _ (List.mem_of_getElem? (i := 14) rfl)) (fun _ h => h) rfl dX8_settles_27 ?_
          refine lv_iload_n hx hb dX8_settles_30 rfl (lv_at hl 0 rfl) ?_
          refine k_ild (ad := ad) (k := 17) (i := 7) Z X ct_17_7 (vp_in_nI (by first | assumption | omega) (by decide)) dX8_settles_31 ?_
          refine lv_topi (fun x_31 e_31 => ?_)
          obtain rfl : x_31 = Tn.1 7 (T.2 3 n) := e_31.trans (by simp only [nI_clamp (show T.2 3 n < 2 ^ 31 by omega)])
          refine lv_aload_n hx hb dX8_settles_32 rfl (lv_at hl 2 rfl) ?_
          refine k_get (index := 50) (j := 17) (ad := ad) (k := 16) (i := 0) Z X ct_16 inlX8 rfl (by decide) (inU_6 _ (List.mem_of_getElem? (i := 20) rfl)) (fun _ h => h) rfl dX8_settles_33 ?_
          refine lv_iload_n hx hb dX8_settles_36 rfl (lv_at hl 1 rfl) ?_
          refine k_ild (ad := ad) (k := 17) (i := 13) Z X ct_17_13 (vp_in_nI (by first | assumption | omega) (by decide)) dX8_settles_37 ?_
          refine lv_topi (fun x_37 e_37 => ?_)
          obtain rfl : x_37 = Tn.1 10 n := e_37.trans (by simp only [nI_clamp (show n < 2 ^ 31 by omega)])
          refine lv_icmp_ne (tgt := 55) hx hb dX8_settles_38 (by decide) (fun c_38 => ?_) (fun c_38 => ?_)
          · refine lv_aload_n hx hb dX8_settles_55 rfl (lv_at hl 2 rfl) ?_
            refine k_get (index := 56) (j := 19) (ad := ad) (k := 16) (i := 0) Z X ct_16 inlX8 rfl (by decide) (inU_6 _ (List.mem_of_getElem? (i := 22) rfl)) (fun _ h => h) rfl dX8_settles_56 ?_
            refine lv_iload_n hx hb dX8_settles_59 rfl (lv_at hl 1 rfl) ?_
            refine lv_iconst (v := 1) hx hb dX8_settles_60 (by decide) ?_
            refine k_zst (ad := ad) (k := 17) (i := 15) Z X ct_17_15 (vp_in_nI (by first | assumption | omega) (by decide)) (Or.inr rfl) dX8_settles_61 (fun H locs X => ?_)
            have X : kX E G s H locs ad (cto G S (sI Tn 12 n 1) o ad) := X.eq (st_17_15 n 1 (by omega))
            refine lv_aload_n hx hb dX8_settles_62 rfl (lv_at hl 2 rfl) ?_
            refine k_get (index := 16) (j := 4) (ad := ad) (k := 16) (i := 0) Z X ct_16 inlX8 rfl (by decide) (inU_6 _ (List.mem_of_getElem? (i := 8) rfl)) (fun _ h => h) rfl dX8_settles_63 ?_
            refine lv_aload_n hx hb dX8_settles_66 rfl (lv_at hl 2 rfl) ?_
            refine k_get (index := 26) (j := 8) (ad := ad) (k := 16) (i := 0) Z X ct_16 inlX8 rfl (by decide) (inU_6 _ (List.mem_of_getElem? (i := 12) rfl)) (fun _ h => h) rfl dX8_settles_67 ?_
            refine lv_iload_n hx hb dX8_settles_70 rfl (lv_at hl 0 rfl) ?_
            refine k_ild (ad := ad) (k := 17) (i := 5) Z X ct_17_5 (vp_in_nI (by first | assumption | omega) (by decide)) dX8_settles_71 ?_
            refine lv_topi (fun x_71 e_71 => ?_)
            obtain rfl : x_71 = nI ((sI Tn 12 n 1).2 2 (T.2 3 n)) := e_71.trans (by simp only [nI_clamp (show T.2 3 n < 2 ^ 31 by omega)])
            refine lv_topi (fun x_71 e_71 => ?_)
            obtain rfl : x_71 = nI (T.2 2 (T.2 3 n)) := e_71.trans (by rw [sI_2, s2])
            refine lv_dup2_11 hx hb dX8_settles_72 rfl rfl ?_
            refine k_ild (ad := ad) (k := 17) (i := 2) Z X ct_17_2 (vp_in_nI (by first | assumption | omega) (by decide)) dX8_settles_73 ?_
            refine lv_topi (fun x_73 e_73 => ?_)
            obtain rfl : x_73 = (sI Tn 12 n 1).1 3 (T.2 2 (T.2 3 n)) := e_73.trans (by simp only [nI_clamp (show T.2 2 (T.2 3 n) < 2 ^ 31 by omega)])
            refine lv_topi (fun x_73 e_73 => ?_)
            obtain rfl : x_73 = Tn.1 3 (T.2 2 (T.2 3 n)) := e_73.trans (sI_f (by decide))
            refine lv_aload_n hx hb dX8_settles_74 rfl (lv_at hl 2 rfl) ?_
            refine k_get (index := 53) (j := 18) (ad := ad) (k := 16) (i := 0) Z X ct_16 inlX8 rfl (by decide) (inU_6 _ (List.mem_of_getElem? (i := 21) rfl)) (fun _ h => h) rfl dX8_settles_75 ?_
            refine lv_iload_n hx hb dX8_settles_78 rfl (lv_at hl 1 rfl) ?_
            refine k_ild (ad := ad) (k := 17) (i := 14) Z X ct_17_14 (vp_in_nI (by first | assumption | omega) (by decide)) dX8_settles_79 ?_
            refine lv_topi (fun x_79 e_79 => ?_)
            obtain rfl : x_79 = (sI Tn 12 n 1).1 11 n := e_79.trans (by simp only [nI_clamp (show n < 2 ^ 31 by omega)])
            refine lv_topi (fun x_79 e_79 => ?_)
            obtain rfl : x_79 = Tn.1 11 n := e_79.trans (sI_f (by decide))
            refine lv_iadd hx hb dX8_settles_80 ?_
            refine k_ist (ad := ad) (k := 17) (i := 2) Z X ct_17_2 (vp_in_nI (by first | assumption | omega) (by decide)) dX8_settles_81 (fun H locs X => ?_)
            have X : kX E G s H locs ad (cto G S (sI (sI Tn 12 n 1) 3 (T.2 2 (T.2 3 n)) (Tn.1 3 (T.2 2 (T.2 3 n)) + Tn.1 11 n)) o ad) := X.eq (st_17_2 _ _ (by omega))
            refine lv_iinc (v := (nI (n + 1))) (lv' := [(1, .int (nI (n + 1))), (2, .int (nI (T.2 3 n))), (0, .ref (ad 16 0))]) hx hb dX8_settles_82 hl (k := 1) rfl (nI_1 _) (by decide) rfl (fun ls hl => ?_)
            refine lv_goto (tgt := 2) hx hb dX8_settles_85 (by decide) ?_
            have hs : stl T (kdT T) (n + 1) = sI (sI Tn 12 n 1) 3 (T.2 2 (T.2 3 n)) (Tn.1 3 (T.2 2 (T.2 3 n)) + Tn.1 11 n) := by simp only [stl, hTn, stl1]; refine (if_pos ?_).trans (by simp only [s2]); simp only [s2] at *; simp [c_23, c_38]
            exact ih (n + 1) (by omega) (by omega) _ _ _ (hs ▸ X) (lv_sub hl [0, 2] rfl)
          · refine lv_aload_n hx hb dX8_settles_41 rfl (lv_at hl 2 rfl) ?_
            refine lv_iload_n hx hb dX8_settles_42 rfl (lv_at hl 0 rfl) ?_
            refine lv_aload_n hx hb dX8_settles_43 rfl (lv_at hl 2 rfl) ?_
            refine k_get (index := 53) (j := 18) (ad := ad) (k := 16) (i := 0) Z X ct_16 inlX8 rfl (by decide) (inU_6 _ (List.mem_of_getElem? (i := 21) rfl)) (fun _ h => h) rfl dX8_settles_44 ?_
            refine lv_iload_n hx hb dX8_settles_47 rfl (lv_at hl 1 rfl) ?_
            refine k_ild (ad := ad) (k := 17) (i := 14) Z X ct_17_14 (vp_in_nI (by first | assumption | omega) (by decide)) dX8_settles_48 ?_
            refine lv_topi (fun x_48 e_48 => ?_)
            obtain rfl : x_48 = Tn.1 11 n := e_48.trans (by simp only [nI_clamp (show n < 2 ^ 31 by omega)])
            refine k_Ri X (k_runV (As := [.int (nI (T.2 3 n)), .int (Tn.1 11 n)]) (rest := []) Z X (c_X8_approves l E G S Tn o ad (T.2 3 n) (Tn.1 11 n) (by omega) (by rw [s2]; omega) (by rw [s2]; omega)) (k_cwV 2 Z.1.2.2.2.2 (inU_12 _ (List.mem_of_getElem? (i := 18) rfl)) (inU_12 _ (List.mem_of_getElem? (i := 19) rfl)) (inU_12 _ (List.mem_of_getElem? (i := 20) rfl)) (inU_1 _ (List.mem_of_getElem? (i := 5) rfl)) (inU_12 _ (List.mem_of_getElem? (i := 21) rfl)) rfl rfl (by decide +kernel) ⟨Nat.le_of_ble_eq_true rfl, Nat.le_of_ble_eq_true rfl⟩) (k_recv Z X ct_16 rfl) rfl hl.1 rfl (Nat.le_of_ble_eq_true rfl) dX8_settles_49 ⟨Nat.le_of_ble_eq_true rfl, Nat.le_of_ble_eq_true rfl⟩) (fun r_49 ad1 ct1 H locs hp X => ?_)
            obtain ⟨rfl, rfl, rfl⟩ := hp
            have hkd : ∀ a u, kdT Tn a u = kdT T a u := fun a u => by simp only [kdT, s1 22 _ (by decide) (by decide), s1 7 _ (by decide) (by decide), s1 21 _ (by decide) (by decide)]
            have hap : appr Tn (kdT Tn (T.2 3 n)) (Tn.2 1 (T.2 3 n)) (Tn.2 0 0) (Tn.1 11 n) = appr Tn (kdT T (T.2 3 n)) (Tn.2 1 (T.2 3 n)) (Tn.2 0 0) (Tn.1 11 n) := appr_c rfl (fun _ => rfl) (fun _ => rfl) (fun u _ => hkd _ u)
            refine lv_if_ne (tgt := 82) hx hb dX8_settles_52 (by decide) (fun c_52 => ?_) (fun c_52 => ?_)
            · have c_52 : (appr Tn (kdT Tn (T.2 3 n)) (Tn.2 1 (T.2 3 n)) (Tn.2 0 0) (Tn.1 11 n)) = true := bI_1 c_52
              refine lv_iinc (v := (nI (n + 1))) (lv' := [(1, .int (nI (n + 1))), (2, .int (nI (T.2 3 n))), (0, .ref (ad 16 0))]) hx hb dX8_settles_82 hl (k := 1) rfl (nI_1 _) (by decide) rfl (fun ls hl => ?_)
              refine lv_goto (tgt := 2) hx hb dX8_settles_85 (by decide) ?_
              rw [hap] at c_52
              have hs : stl T (kdT T) (n + 1) = Tn := by simp only [stl, hTn, stl1]; refine if_neg ?_; rw [s2]; simp only [s2] at *; simp [c_23, c_38, c_52]
              exact ih (n + 1) (by omega) (by omega) _ _ _ (hs ▸ X) (lv_sub hl [0, 2] rfl)
            · have c_52 : (appr Tn (kdT Tn (T.2 3 n)) (Tn.2 1 (T.2 3 n)) (Tn.2 0 0) (Tn.1 11 n)) = false := bI_0 c_52
              refine lv_aload_n hx hb dX8_settles_55 rfl (lv_at hl 2 rfl) ?_
              refine k_get (index := 56) (j := 19) (ad := ad) (k := 16) (i := 0) Z X ct_16 inlX8 rfl (by decide) (inU_6 _ (List.mem_of_getElem? (i := 22) rfl)) (fun _ h => h) rfl dX8_settles_56 ?_
              refine lv_iload_n hx hb dX8_settles_59 rfl (lv_at hl 1 rfl) ?_
              refine lv_iconst (v := 1) hx hb dX8_settles_60 (by decide) ?_
              refine k_zst (ad := ad) (k := 17) (i := 15) Z X ct_17_15 (vp_in_nI (by first | assumption | omega) (by decide)) (Or.inr rfl) dX8_settles_61 (fun H locs X => ?_)
              have X : kX E G s H locs ad (cto G S (sI Tn 12 n 1) o ad) := X.eq (st_17_15 n 1 (by omega))
              refine lv_aload_n hx hb dX8_settles_62 rfl (lv_at hl 2 rfl) ?_
              refine k_get (index := 16) (j := 4) (ad := ad) (k := 16) (i := 0) Z X ct_16 inlX8 rfl (by decide) (inU_6 _ (List.mem_of_getElem? (i := 8) rfl)) (fun _ h => h) rfl dX8_settles_63 ?_
              refine lv_aload_n hx hb dX8_settles_66 rfl (lv_at hl 2 rfl) ?_
              refine k_get (index := 26) (j := 8) (ad := ad) (k := 16) (i := 0) Z X ct_16 inlX8 rfl (by decide) (inU_6 _ (List.mem_of_getElem? (i := 12) rfl)) (fun _ h => h) rfl dX8_settles_67 ?_
              refine lv_iload_n hx hb dX8_settles_70 rfl (lv_at hl 0 rfl) ?_
              refine k_ild (ad := ad) (k := 17) (i := 5) Z X ct_17_5 (vp_in_nI (by first | assumption | omega) (by decide)) dX8_settles_71 ?_
              refine lv_topi (fun x_71 e_71 => ?_)
              obtain rfl : x_71 = nI ((sI Tn 12 n 1).2 2 (T.2 3 n)) := e_71.trans (by simp only [nI_clamp (show T.2 3 n < 2 ^ 31 by omega)])
              refine lv_topi (fun x_71 e_71 => ?_)
              obtain rfl : x_71 = nI (T.2 2 (T.2 3 n)) := e_71.trans (by rw [sI_2, s2])
              refine lv_dup2_11 hx hb dX8_settles_72 rfl rfl ?_
              refine k_ild (ad := ad) (k := 17) (i := 2) Z X ct_17_2 (vp_in_nI (by first | assumption | omega) (by decide)) dX8_settles_73 ?_
              refine lv_topi (fun x_73 e_73 => ?_)
              obtain rfl : x_73 = (sI Tn 12 n 1).1 3 (T.2 2 (T.2 3 n)) := e_73.trans (by simp only [nI_clamp (show T.2 2 (T.2 3 n) < 2 ^ 31 by omega)])
              refine lv_topi (fun x_73 e_73 => ?_)
              obtain rfl : x_73 = Tn.1 3 (T.2 2 (T.2 3 n)) := e_73.trans (sI_f (by decide))
              refine lv_aload_n hx hb dX8_settles_74 rfl (lv_at hl 2 rfl) ?_
              refine k_get (index := 53) (j := 18) (ad := ad) (k := 16) (i := 0) Z X ct_16 inlX8 rfl (by decide) (inU_6 _ (List.mem_of_getElem? (i := 21) rfl)) (fun _ h => h) rfl dX8_settles_75 ?_
              refine lv_iload_n hx hb dX8_settles_78 rfl (lv_at hl 1 rfl) ?_
              refine k_ild (ad := ad) (k := 17) (i := 14) Z X ct_17_14 (vp_in_nI (by first | assumption | omega) (by decide)) dX8_settles_79 ?_
              refine lv_topi (fun x_79 e_79 => ?_)
              obtain rfl : x_79 = (sI Tn 12 n 1).1 11 n := e_79.trans (by simp only [nI_clamp (show n < 2 ^ 31 by omega)])
              refine lv_topi (fun x_79 e_79 => ?_)
              obtain rfl : x_79 = Tn.1 11 n := e_79.trans (sI_f (by decide))
              refine lv_iadd hx hb dX8_settles_80 ?_
              refine k_ist (ad := ad) (k := 17) (i := 2) Z X ct_17_2 (vp_in_nI (by first | assumption | omega) (by decide)) dX8_settles_81 (fun H locs X => ?_)
              have X : kX E G s H locs ad (cto G S (sI (sI Tn 12 n 1) 3 (T.2 2 (T.2 3 n)) (Tn.1 3 (T.2 2 (T.2 3 n)) + Tn.1 11 n)) o ad) := X.eq (st_17_2 _ _ (by omega))
              refine lv_iinc (v := (nI (n + 1))) (lv' := [(1, .int (nI (n + 1))), (2, .int (nI (T.2 3 n))), (0, .ref (ad 16 0))]) hx hb dX8_settles_82 hl (k := 1) rfl (nI_1 _) (by decide) rfl (fun ls hl => ?_)
              refine lv_goto (tgt := 2) hx hb dX8_settles_85 (by decide) ?_
              rw [hap] at c_52
              have hs : stl T (kdT T) (n + 1) = sI (sI Tn 12 n 1) 3 (T.2 2 (T.2 3 n)) (Tn.1 3 (T.2 2 (T.2 3 n)) + Tn.1 11 n) := by simp only [stl, hTn, stl1]; refine (if_pos ?_).trans (by simp only [s2]); simp only [s2] at *; simp [c_23, c_38, c_52]
              exact ih (n + 1) (by omega) (by omega) _ _ _ (hs ▸ X) (lv_sub hl [0, 2] rfl)
  exact LOOP_2 (T.2 0 2 + 1) 0 (by omega) (by omega) _ _ _ X (lv_sub hl [0, 1] rfl)
