/-! THE LAW'S reads -/
section KLW
variable {p : Program} {l : Launch} {e : Env} {R : Room} {s : State} {m : MethodId} {args : Array Value} {below : List Frame} {meth : Method} {c : Code} {H : Heap} {locs : List Loc} {cells slots : Nat} {Q : State → Prop}
variable {cc : ByteArray} {nL : Nat} {own : String} {E : State} {G : kG} {ad : kAd} {ct : kCt} {pc : Nat} {ls : Array Slot} {rest st0 : List Value} {Qc : Array Value → State → Outcome → State → Prop}
variable {ws : List Cond} {rm : Room} {mc ms index n maxL : Nat} {y : MethodName} {bytes : ByteArray} {ret9 : Option FieldType} {As : List Value} {hh : List (Nat × Nat × Nat × Nat)}
theorem k_cwSW (n : Nat) (ht : ∀ w ∈ wsL_law, w.before args s = true) (hl : Cond.methodLink own index y ∈ wsL_law) (hst : Cond.static y ∈ wsL_law) (hini : Cond.initialized y.cls ∈ wsL_law) (hc : Cond.codeWith y bytes maxL ret9 hh ∈ wsL_law) (hrc : rm.cells = mc) (hrs : rm.slots = ms)
    (hd : y.cls ≠ "java/lang/invoke/MethodHandle" ∧ y.cls ≠ "java/lang/invoke/VarHandle" ∧ (parseMethodDescriptor y.desc).map (fun d => d.parameters.length) = some n) (hR : rm.frames + 1 ≤ R.frames ∧ 8 + (maxL + 11) + rm.locals ≤ R.locals) : vx_CSW R s args own index y bytes maxL ret9 hh (Cond.codeWith y bytes maxL ret9 hh :: wsL_law) rm mc ms n := by
  refine vx_cwSW n ht (fun w hw => ?_) rfl hrc hrs hd hR
  have h9 : w ∈ wsL_law := by
    unfold va_wsS at hw
    rcases List.mem_append.mp hw with h | h
    · simp only [List.mem_cons, List.not_mem_nil, or_false] at h
      rcases h with rfl | rfl | rfl
      · exact hl
      · exact hst
      · exact hini
    · rcases List.mem_cons.mp h with rfl | h
      · exact hc
      · exact h
  exact ⟨h9, wsL_good _ h9⟩
theorem k_xrunSW {XC : String → State → State → Prop} {Ts : List Cond} (Z : kZ p m c cc nL s args Ts own E G) (X : kX E G s H locs ad ct) (hM : vx_Met l y ws rm (va_Pc As (kPre E G ad ct)) Qc XC mc ms (kB E.heap.size)) (cw : vx_CSW R s args own index y bytes maxL ret9 hh ws rm mc ms n) (hn : As.length = n) (hsz : ls.size = nL) (hst : st0 = As.reverse ++ rest) (hcat : (rest.map fun v => v.category).sum ≤ 8) (hdg : decode cc pc = .ok (.invokestatic index, 3)) (hf : cells + mc ≤ R.cells ∧ slots + ms ≤ R.slots) : vx_Run p l e R s m args below meth c H locs cells slots mc ms (F0 m pc ls st0) rest (Qc As.toArray) XC (kB E.heap.size) :=
  vx_runSX Z.1 hM cw ⟨kBlind, fun _ hU hW => ⟨rfl, kPre.at Z.2.1 Z.2.2 X hU hW⟩⟩ rfl hn hsz hst (lv_room hcat) hdg hf
end KLW
theorem dg_e {N : Nat} (h : N < 1000000) : ∃ e, e ≤ 5 ∧ N < 10 ^ (e + 1) ∧ (e = 0 ∨ 10 ^ e ≤ N) ∧ dgs 20 N = pd N e := by
  have key : ∀ e, e ≤ 5 → N < 10 ^ (e + 1) → (e = 0 ∨ 10 ^ e ≤ N) → ∃ e, e ≤ 5 ∧ N < 10 ^ (e + 1) ∧ (e = 0 ∨ 10 ^ e ≤ N) ∧ dgs 20 N = pd N e :=
    fun e h1 h2 h3 => ⟨e, h1, h2, h3, dgs_pd 20 e N (by omega) h2 h3⟩
  by_cases h1 : N < 10
  · exact key 0 (by decide) h1 (Or.inl rfl)
  by_cases h2 : N < 100
  · exact key 1 (by decide) h2 (Or.inr (show 10 ≤ N by omega))
  by_cases h3 : N < 1000
  · exact key 2 (by decide) h3 (Or.inr (show 100 ≤ N by omega))
  by_cases h4 : N < 10000
  · exact key 3 (by decide) h4 (Or.inr (show 1000 ≤ N by omega))
  by_cases h5 : N < 100000
  · exact key 4 (by decide) h5 (Or.inr (show 10000 ≤ N by omega))
  · exact key 5 (by decide) h (Or.inr (show 100000 ≤ N by omega))
theorem p10_in : ∀ k, k < 6 → 0 < 10 ^ k ∧ 10 ^ k ≤ 100000 := by decide +kernel
/-- the power of ten that 'by' comes to -/
theorem by_end {N e k P : Nat} (h2 : N < 10 ^ (e + 1)) (h3 : e = 0 ∨ 10 ^ e ≤ N) (hk : k ≤ e) (hP : P = 10 ^ k) : (N / P ≤ 9 → k = e) ∧ (¬ N / P ≤ 9 → k < e) := by
  have p : 0 < P := by rw [hP]; exact Nat.pow_pos (by decide)
  refine ⟨fun h => ?_, fun h => ?_⟩
  · by_cases hc : k = e
    · exact hc
    · exfalso
      have h4 : 10 ^ e ≤ N := h3.resolve_left (by omega)
      have h5 : 10 ^ (k + 1) ≤ 10 ^ e := Nat.pow_le_pow_right (by decide) (by omega)
      have h6 : 10 * P ≤ N := by rw [hP, Nat.mul_comm, ← Nat.pow_succ]; exact Nat.le_trans h5 h4
      have h7 := (Nat.le_div_iff_mul_le p).mpr h6
      omega
  · by_cases hc : k = e
    · exfalso
      rw [hc] at hP
      have h4 : N < 10 * P := by rw [hP, Nat.mul_comm, ← Nat.pow_succ]; exact h2
      have h5 := (Nat.div_lt_iff_lt_mul p).mpr h4
      omega
    · omega
theorem cLabel_0 {S : kSt} {t q : Nat} (ht : t < S.2 0 3) (h3 : S.2 0 3 ≤ 60) (hq : q < 2 ^ 31) : cLabel S (nI t) (nI q) = 0 := by
  rw [cLabel, if_neg]
  rw [inB_nI ht (by omega), decide_eq_true (nI_pos' hq)]
  decide
theorem rLabel_0 {S : kSt} {t q x : Nat} (ht : t < 2 ^ 31) (hq : q < 2 ^ 31) (h : (lab S t).getD q 0 = x) : rLabel S (nI t) (nI q) = nI x := by
  rw [rLabel, show cl (nI t) = t from nI_clamp ht, show cl (nI q) = q from nI_clamp hq, h]
/-- how far the digits are read -/
def rdI (e i L : Nat) : Prop := (i ≤ e ∧ L = 10 ^ (e - i)) ∨ (i = e + 1 ∧ L = 0)
theorem rdI_s {e i L : Nat} (h : rdI e i L) (h0 : ¬ L = 0) : i ≤ e ∧ L = 10 ^ (e - i) ∧ rdI e (i + 1) (L / 10) := by
  rcases h with ⟨h1, h2⟩ | ⟨h1, h2⟩
  · refine ⟨h1, h2, ?_⟩
    by_cases hc : i = e
    · exact Or.inr ⟨by omega, by rw [h2, hc, Nat.sub_self]⟩
    · refine Or.inl ⟨by omega, ?_⟩
      rw [h2, show e - i = (e - (i + 1)) + 1 by omega, Nat.pow_succ, Nat.mul_div_cancel _ (by decide)]
  · exact absurd h2 h0
theorem dL_reads_0 : decode cL_reads 0 = .ok (.iload_n 2, 1) := by decide +kernel
theorem dL_reads_1 : decode cL_reads 1 = .ok (.istore 5, 2) := by decide +kernel
theorem dL_reads_3 : decode cL_reads 3 = .ok (.iconst 1, 1) := by decide +kernel
theorem dL_reads_4 : decode cL_reads 4 = .ok (.istore 6, 2) := by decide +kernel
theorem dL_reads_6 : decode cL_reads 6 = .ok (.iload_n 3, 1) := by decide +kernel
theorem dL_reads_7 : decode cL_reads 7 = .ok (.iload 6, 2) := by decide +kernel
theorem dL_reads_9 : decode cL_reads 9 = .ok (.idiv, 1) := by decide +kernel
theorem dL_reads_10 : decode cL_reads 10 = .ok (.bipush 9, 2) := by decide +kernel
theorem dL_reads_12 : decode cL_reads 12 = .ok (.if_icmp .le 13, 3) := by decide +kernel
theorem dL_reads_15 : decode cL_reads 15 = .ok (.iload 6, 2) := by decide +kernel
theorem dL_reads_17 : decode cL_reads 17 = .ok (.bipush 10, 2) := by decide +kernel
theorem dL_reads_19 : decode cL_reads 19 = .ok (.imul, 1) := by decide +kernel
theorem dL_reads_20 : decode cL_reads 20 = .ok (.istore 6, 2) := by decide +kernel
theorem dL_reads_22 : decode cL_reads 22 = .ok (.goto (-16), 3) := by decide +kernel
theorem dL_reads_25 : decode cL_reads 25 = .ok (.iload 6, 2) := by decide +kernel
theorem dL_reads_27 : decode cL_reads 27 = .ok (.istore 7, 2) := by decide +kernel
theorem dL_reads_29 : decode cL_reads 29 = .ok (.iload 7, 2) := by decide +kernel
theorem dL_reads_31 : decode cL_reads 31 = .ok (.ifCond .le 48, 3) := by decide +kernel
theorem dL_reads_34 : decode cL_reads 34 = .ok (.iload 5, 2) := by decide +kernel
theorem dL_reads_36 : decode cL_reads 36 = .ok (.ifCond .lt 43, 3) := by decide +kernel
theorem dL_reads_39 : decode cL_reads 39 = .ok (.aload_n 0, 1) := by decide +kernel
theorem dL_reads_40 : decode cL_reads 40 = .ok (.iload_n 1, 1) := by decide +kernel
theorem dL_reads_41 : decode cL_reads 41 = .ok (.iload 5, 2) := by decide +kernel
theorem dL_reads_43 : decode cL_reads 43 = .ok (.invokevirtual 93, 3) := by decide +kernel
theorem dL_reads_46 : decode cL_reads 46 = .ok (.bipush 48, 2) := by decide +kernel
theorem dL_reads_48 : decode cL_reads 48 = .ok (.iload_n 3, 1) := by decide +kernel
theorem dL_reads_49 : decode cL_reads 49 = .ok (.iload 7, 2) := by decide +kernel
theorem dL_reads_51 : decode cL_reads 51 = .ok (.idiv, 1) := by decide +kernel
theorem dL_reads_52 : decode cL_reads 52 = .ok (.bipush 10, 2) := by decide +kernel
theorem dL_reads_54 : decode cL_reads 54 = .ok (.irem, 1) := by decide +kernel
theorem dL_reads_55 : decode cL_reads 55 = .ok (.iadd, 1) := by decide +kernel
theorem dL_reads_56 : decode cL_reads 56 = .ok (.if_icmp .ne 10, 3) := by decide +kernel
theorem dL_reads_59 : decode cL_reads 59 = .ok (.iload 5, 2) := by decide +kernel
theorem dL_reads_61 : decode cL_reads 61 = .ok (.iconst 1, 1) := by decide +kernel
theorem dL_reads_62 : decode cL_reads 62 = .ok (.iadd, 1) := by decide +kernel
theorem dL_reads_63 : decode cL_reads 63 = .ok (.goto 4, 3) := by decide +kernel
theorem dL_reads_66 : decode cL_reads 66 = .ok (.iconst (-1), 1) := by decide +kernel
theorem dL_reads_67 : decode cL_reads 67 = .ok (.istore 5, 2) := by decide +kernel
theorem dL_reads_69 : decode cL_reads 69 = .ok (.iload 7, 2) := by decide +kernel
theorem dL_reads_71 : decode cL_reads 71 = .ok (.bipush 10, 2) := by decide +kernel
theorem dL_reads_73 : decode cL_reads 73 = .ok (.idiv, 1) := by decide +kernel
theorem dL_reads_74 : decode cL_reads 74 = .ok (.istore 7, 2) := by decide +kernel
theorem dL_reads_76 : decode cL_reads 76 = .ok (.goto (-47), 3) := by decide +kernel
theorem dL_reads_79 : decode cL_reads 79 = .ok (.iload 5, 2) := by decide +kernel
theorem dL_reads_81 : decode cL_reads 81 = .ok (.ifCond .lt 22, 3) := by decide +kernel
theorem dL_reads_84 : decode cL_reads 84 = .ok (.aload_n 0, 1) := by decide +kernel
theorem dL_reads_85 : decode cL_reads 85 = .ok (.iload_n 1, 1) := by decide +kernel
theorem dL_reads_86 : decode cL_reads 86 = .ok (.iload 5, 2) := by decide +kernel
theorem dL_reads_88 : decode cL_reads 88 = .ok (.invokevirtual 93, 3) := by decide +kernel
theorem dL_reads_91 : decode cL_reads 91 = .ok (.iload 4, 2) := by decide +kernel
theorem dL_reads_93 : decode cL_reads 93 = .ok (.if_icmp .ne 10, 3) := by decide +kernel
theorem dL_reads_96 : decode cL_reads 96 = .ok (.iload 5, 2) := by decide +kernel
theorem dL_reads_98 : decode cL_reads 98 = .ok (.iconst 1, 1) := by decide +kernel
theorem dL_reads_99 : decode cL_reads 99 = .ok (.iadd, 1) := by decide +kernel
theorem dL_reads_100 : decode cL_reads 100 = .ok (.goto 4, 3) := by decide +kernel
theorem dL_reads_103 : decode cL_reads 103 = .ok (.iconst (-1), 1) := by decide +kernel
theorem dL_reads_104 : decode cL_reads 104 = .ok (.ireturn, 1) := by decide +kernel
set_option maxHeartbeats 4000000 in
set_option maxRecDepth 100000 in
theorem c_L_reads (l : Launch) (E : State) (G : kG) (S T : kSt) (o : Int64) (ad : kAd) (hE : kE l E G) (hS : okN S) (hL : okL S) (t p9 N sg : Nat) (ht : t < S.2 0 3) (hN9 : N < 1000000) (hp9 : p9 < 1000) (hsg : sg < 1000) (hlab : ∀ i, i < (dgs 20 N).length → (lab S t).getD (p9 + i) 0 = (dgs 20 N).getD i 0) (hend : (lab S t).getD (p9 + (dgs 20 N).length) 0 = sg) : vx_Met l yL_reads (.code yL_reads cL_reads 8 (some .int) :: wsL_law) ({ frames := 16, cells := 14, slots := 84, locals := 460 } : Room) (va_Pc [.ref (ad 0 0), .int (nI t), .int (nI p9), .int (nI N), .int (nI sg)] (kPre E G ad (cto G S T o ad))) (kQi E G (fun r ad1 ct1 => r = nI (p9 + (dgs 20 N).length + 1) ∧ ad = ad1 ∧ ct1 = cto G S T o ad)) (kXC E G (fun _ _ _ => False)) 14 84 (kB E.heap.size) := by
  refine vx_ofW (cc := cL_reads) (maxL := 8) (ret := (some .int)) (by decide) rfl ?_
  intro p e s m args below meth c s₁ B hml hout hv
  obtain ⟨rfl, hM, hK, hW0⟩ := hv
  have hlocks := B.notSynchronized
  have hr := B.returns
  have Z : kZ p m c cL_reads 8 s _ wsL_law RL E G := ⟨⟨B.exec, B.bytes, hml, findClass_of_methodNamed B.named, fun w h => atoms_spec (ws := .code yL_reads cL_reads 8 (some .int) :: wsL_law) B.pre w (List.mem_cons_of_mem _ h)⟩, hM, hK⟩
  have hx := Z.1.1
  have hb := Z.1.2.1
  have X := kX.of hW0
  have hl := lv_entry ([.ref (ad 0 0), .int (nI t), .int (nI p9), .int (nI N), .int (nI sg)]) (n := 8) (Nat.le_of_ble_eq_true rfl)
  rw [lg_entry_eq]
  generalize (lg_sl ([.ref (ad 0 0), .int (nI t), .int (nI p9), .int (nI N), .int (nI sg)]) ++ List.replicate (8 - (lg_sl ([.ref (ad 0 0), .int (nI t), .int (nI p9), .int (nI N), .int (nI sg)])).length) Slot.unset).toArray = ls at hl ⊢
  have hl : lv_has ls 8 [(0, .ref (ad 0 0)), (1, .int (nI t)), (2, .int (nI p9)), (3, .int (nI N)), (4, .int (nI sg))] := hl
  have h60 := hS.2.2.2.1
  obtain ⟨e9, he5, he1, he2, he3⟩ := dg_e hN9
  have hlen : (dgs 20 N).length = e9 + 1 := by rw [he3, pd_len]
  rw [hlen] at hlab hend
  refine lv_iload_n hx hb dL_reads_0 rfl (lv_at hl 2 rfl) ?_
  refine lv_istore (lv' := [(5, .int (nI p9)), (0, .ref (ad 0 0)), (1, .int (nI t)), (2, .int (nI p9)), (3, .int (nI N)), (4, .int (nI sg))]) hx hb dL_reads_1 hl (by decide) rfl (fun ls hl => ?_)
  refine lv_iconst (v := 1) hx hb dL_reads_3 (by decide) ?_
  refine lv_istore (lv' := [(6, .int 1), (5, .int (nI p9)), (0, .ref (ad 0 0)), (1, .int (nI t)), (2, .int (nI p9)), (3, .int (nI N)), (4, .int (nI sg))]) hx hb dL_reads_4 hl (by decide) rfl (fun ls hl => ?_)
  have LOOP_6 : ∀ (d : Nat) (k : Nat) (P : Nat), k ≤ e9 → P = 10 ^ k → e9 < k + d → ∀ (H : Heap) (locs : List Loc) (ls : Array Slot), kX E G s H locs ad (cto G S T o ad) → lv_has ls 8 [(6, .int (nI P)), (5, .int (nI p9)), (0, .ref (ad 0 0)), (1, .int (nI t)), (2, .int (nI p9)), (3, .int (nI N)), (4, .int (nI sg))] → W p l e (headSpec (Cond.code yL_reads cL_reads 8 (some .int) :: wsL_law) ({ frames := 16, cells := 14, slots := 84, locals := 460 } : Room)).room s m ([.ref (ad 0 0), .int (nI t), .int (nI p9), .int (nI N), .int (nI sg)] : List Value).toArray below meth c H locs 0 0 (vx_MQ below (kQi E G (fun r ad1 ct1 => r = nI (p9 + (dgs 20 N).length + 1) ∧ ad = ad1 ∧ ct1 = cto G S T o ad)) (kXC E G (fun _ _ _ => False)) ([.ref (ad 0 0), .int (nI t), .int (nI p9), .int (nI N), .int (nI sg)] : List Value).toArray s 14 84 (kB E.heap.size)) (F0 m 6 ls []) := by
    intro d
    induction d with
    | zero => intro k P h1 hP h2; intros; exact absurd h2 (by omega)
    | succ d ih =>
      intro k P h1 hP h2 H locs ls X hl
      have hPp : 0 < P ∧ P ≤ 100000 := by rw [hP]; exact p10_in k (by omega)
      have hNP : N / P ≤ N := Nat.div_le_self _ _
      refine lv_iload_n hx hb dL_reads_6 rfl (lv_at hl 5 rfl) ?_
      refine lv_iload hx hb dL_reads_7 (lv_at hl 0 rfl) ?_
      refine lv_idiv hx hb dL_reads_9 (nI_ne0 (by omega) (by omega)) ?_
      refine lv_topi (fun x_9 e_9 => ?_)
      obtain rfl : x_9 = nI (N / P) := e_9.trans ((pk_div (a := N) (d := P) (by omega) (by omega) (by omega)))
      refine lv_bipush (v := 9) hx hb dL_reads_10 (by decide) ?_
      refine lv_icmp_le (tgt := 25) hx hb dL_reads_12 (by decide) (fun c_12 => ?_) (fun c_12 => ?_)
      · have c_12 : N / P ≤ 9 := (nI_leI (a := N / P) (b := 9) (by omega) (by omega)).mp c_12
        have hke : k = e9 := (by_end he1 he2 h1 hP).1 c_12
        rw [hke] at hP
        refine lv_iload hx hb dL_reads_25 (lv_at hl 0 rfl) ?_
        refine lv_istore (lv' := [(7, .int (nI P)), (6, .int (nI P)), (5, .int (nI p9)), (0, .ref (ad 0 0)), (1, .int (nI t)), (2, .int (nI p9)), (3, .int (nI N)), (4, .int (nI sg))]) hx hb dL_reads_27 hl (by decide) rfl (fun ls hl => ?_)
        have hl : lv_has ls 8 [(7, .int (nI P)), (6, .int (nI P)), (5, .int (nI (p9 + 0))), (0, .ref (ad 0 0)), (1, .int (nI t)), (2, .int (nI p9)), (3, .int (nI N)), (4, .int (nI sg))] := hl
        have LOOP_29 : ∀ (d2 : Nat) (i : Nat) (L : Nat), rdI e9 i L → i ≤ e9 + 1 → e9 + 1 < i + d2 → ∀ (H : Heap) (locs : List Loc) (ls : Array Slot), kX E G s H locs ad (cto G S T o ad) → lv_has ls 8 [(7, .int (nI L)), (5, .int (nI (p9 + i))), (6, .int (nI P)), (0, .ref (ad 0 0)), (1, .int (nI t)), (2, .int (nI p9)), (3, .int (nI N)), (4, .int (nI sg))] → W p l e (headSpec (Cond.code yL_reads cL_reads 8 (some .int) :: wsL_law) ({ frames := 16, cells := 14, slots := 84, locals := 460 } : Room)).room s m ([.ref (ad 0 0), .int (nI t), .int (nI p9), .int (nI N), .int (nI sg)] : List Value).toArray below meth c H locs (2 * i) (12 * i) (vx_MQ below (kQi E G (fun r ad1 ct1 => r = nI (p9 + (dgs 20 N).length + 1) ∧ ad = ad1 ∧ ct1 = cto G S T o ad)) (kXC E G (fun _ _ _ => False)) ([.ref (ad 0 0), .int (nI t), .int (nI p9), .int (nI N), .int (nI sg)] : List Value).toArray s 14 84 (kB E.heap.size)) (F0 m 29 ls []) := by
          intro d2
          induction d2 with
          | zero => intro i L hR hi6 hm; intros; exact absurd hm (by omega)
          | succ d2 ih2 =>
            intro i L hR hi6 hm H locs ls X hl
            have hLb : L ≤ 100000 := by rcases hR with ⟨z1, z2⟩ | ⟨z1, z2⟩; exact (by rw [z2]; exact (p10_in (e9 - i) (by omega)).2); omega
            refine lv_iload hx hb dL_reads_29 (lv_at hl 0 rfl) ?_
            refine lv_if_le (tgt := 79) hx hb dL_reads_31 (by decide) (fun c_31 => ?_) (fun c_31 => ?_)
            · have c_31 : L ≤ 0 := (nI_leI (a := L) (b := 0) (by omega) (by omega)).mp c_31
              have hL0 : L = 0 := by omega
              have hie : i = e9 + 1 := by rcases hR with ⟨z1, z2⟩ | z; exact absurd (hL0.symm.trans z2) (by have := (p10_in (e9 - i) (by omega)).1; omega); exact z.1
              rw [hie] at hl
              refine lv_iload hx hb dL_reads_79 (lv_at hl 1 rfl) ?_
              refine lv_if_lt (tgt := 103) hx hb dL_reads_81 (by decide) (fun c_81 => ?_) (fun c_81 => ?_)
              · exact absurd ((nI_ltI (a := p9 + (e9 + 1)) (b := 0) (by omega) (by decide)).mp c_81) (by omega)
              · refine lv_aload_n hx hb dL_reads_84 rfl (lv_at hl 3 rfl) ?_
                refine lv_iload_n hx hb dL_reads_85 rfl (lv_at hl 4 rfl) ?_
                refine lv_iload hx hb dL_reads_86 (lv_at hl 1 rfl) ?_
                refine k_xRi X (k_xrunV (As := [.int (nI t), .int (nI (p9 + (e9 + 1)))]) (rest := []) Z X (c_X7_label l E G S T o ad (nI t) (nI (p9 + (e9 + 1))) hE hS hL) (k_cwV 2 Z.1.2.2.2.2 (inU_28 _ (List.mem_of_getElem? (i := 20) rfl)) (inU_28 _ (List.mem_of_getElem? (i := 21) rfl)) (inU_28 _ (List.mem_of_getElem? (i := 22) rfl)) (inU_1 _ (List.mem_of_getElem? (i := 2) rfl)) (inU_28 _ (List.mem_of_getElem? (i := 23) rfl)) rfl rfl (by decide +kernel) ⟨Nat.le_of_ble_eq_true rfl, Nat.le_of_ble_eq_true rfl⟩) (k_recv Z X ct_0 rfl) rfl hl.1 rfl (Nat.le_of_ble_eq_true rfl) dL_reads_88 ⟨(by show _ ≤ (_ : Nat); simp only [headSpec]; omega), (by show _ ≤ (_ : Nat); simp only [headSpec]; omega)⟩) (fun x ce q9 ad1 ct1 H locs hp X x1 x2 x3 => ?_) (fun r_88 ad1 ct1 H locs hp X => ?_)
                · exact absurd ((cLabel_0 ht (by omega) (by omega)).symm.trans hp.1.1) (by decide)
                obtain ⟨⟨-, rfl⟩, ha_, hb_⟩ := hp
                rw [← ha_, hb_] at X
                refine lv_topi (fun x_88 e_88 => ?_)
                obtain rfl : x_88 = nI sg := e_88.trans (rLabel_0 (by omega) (by omega) hend)
                refine lv_iload hx hb dL_reads_91 (lv_at hl 7 rfl) ?_
                refine lv_icmp_ne (tgt := 103) hx hb dL_reads_93 (by decide) (fun c_93 => ?_) (fun c_93 => ?_)
                · exact absurd rfl c_93
                · refine lv_iload hx hb dL_reads_96 (lv_at hl 1 rfl) ?_
                  refine lv_iconst (v := 1) hx hb dL_reads_98 (by decide) ?_
                  refine lv_iadd hx hb dL_reads_99 ?_
                  refine lv_topi (fun x_99 e_99 => ?_)
                  obtain rfl : x_99 = nI ((p9 + (e9 + 1)) + 1) := e_99.trans (nI_add (p9 + (e9 + 1)) 1)
                  refine lv_goto (tgt := 104) hx hb dL_reads_100 (by decide) ?_
                  exact vx_ret (k_iret Z X hr hlocks rfl (by omega) (by omega) dL_reads_104 ⟨congrArg nI (by rw [hlen]), rfl, rfl⟩)
            · have c_31 : ¬ L ≤ 0 := fun h => c_31 ((nI_leI (a := L) (b := 0) (by omega) (by omega)).mpr h)
              have hiL := rdI_s hR (by omega)
              have hNL : N / L ≤ N := Nat.div_le_self _ _
              refine lv_iload hx hb dL_reads_34 (lv_at hl 1 rfl) ?_
              refine lv_if_lt (tgt := 79) hx hb dL_reads_36 (by decide) (fun c_36 => ?_) (fun c_36 => ?_)
              · exact absurd ((nI_ltI (a := p9 + i) (b := 0) (by omega) (by decide)).mp c_36) (by omega)
              · refine lv_aload_n hx hb dL_reads_39 rfl (lv_at hl 3 rfl) ?_
                refine lv_iload_n hx hb dL_reads_40 rfl (lv_at hl 4 rfl) ?_
                refine lv_iload hx hb dL_reads_41 (lv_at hl 1 rfl) ?_
                refine k_xRi X (k_xrunV (As := [.int (nI t), .int (nI (p9 + i))]) (rest := []) Z X (c_X7_label l E G S T o ad (nI t) (nI (p9 + i)) hE hS hL) (k_cwV 2 Z.1.2.2.2.2 (inU_28 _ (List.mem_of_getElem? (i := 20) rfl)) (inU_28 _ (List.mem_of_getElem? (i := 21) rfl)) (inU_28 _ (List.mem_of_getElem? (i := 22) rfl)) (inU_1 _ (List.mem_of_getElem? (i := 2) rfl)) (inU_28 _ (List.mem_of_getElem? (i := 23) rfl)) rfl rfl (by decide +kernel) ⟨Nat.le_of_ble_eq_true rfl, Nat.le_of_ble_eq_true rfl⟩) (k_recv Z X ct_0 rfl) rfl hl.1 rfl (Nat.le_of_ble_eq_true rfl) dL_reads_43 ⟨(by show _ ≤ (_ : Nat); simp only [headSpec]; omega), (by show _ ≤ (_ : Nat); simp only [headSpec]; omega)⟩) (fun x ce q9 ad1 ct1 H locs hp X x1 x2 x3 => ?_) (fun r_43 ad1 ct1 H locs hp X => ?_)
                · exact absurd ((cLabel_0 ht (by omega) (by omega)).symm.trans hp.1.1) (by decide)
                obtain ⟨⟨-, rfl⟩, ha_, hb_⟩ := hp
                rw [← ha_, hb_] at X
                refine lv_topi (fun x_43 e_43 => ?_)
                obtain rfl : x_43 = nI (48 + N / L % 10) := e_43.trans (rLabel_0 (by omega) (by omega) ((hlab i (by omega)).trans (by rw [he3, pd_get N e9 i hiL.1, ← hiL.2.1])))
                refine lv_bipush (v := 48) hx hb dL_reads_46 (by decide) ?_
                refine lv_iload_n hx hb dL_reads_48 rfl (lv_at hl 6 rfl) ?_
                refine lv_iload hx hb dL_reads_49 (lv_at hl 0 rfl) ?_
                refine lv_idiv hx hb dL_reads_51 (nI_ne0 (by omega) (by omega)) ?_
                refine lv_topi (fun x_51 e_51 => ?_)
                obtain rfl : x_51 = nI (N / L) := e_51.trans ((pk_div (a := N) (d := L) (by omega) (by omega) (by omega)))
                refine lv_bipush (v := 10) hx hb dL_reads_52 (by decide) ?_
                refine lv_irem hx hb dL_reads_54 (by decide) ?_
                refine lv_topi (fun x_54 e_54 => ?_)
                obtain rfl : x_54 = nI ((N / L) % 10) := e_54.trans ((pk_rem (a := (N / L)) (d := 10) (by omega) (by omega) (by omega)))
                refine lv_iadd hx hb dL_reads_55 ?_
                refine lv_topi (fun x_55 e_55 => ?_)
                obtain rfl : x_55 = nI (48 + ((N / L) % 10)) := e_55.trans (nI_add 48 ((N / L) % 10))
                refine lv_icmp_ne (tgt := 66) hx hb dL_reads_56 (by decide) (fun c_56 => ?_) (fun c_56 => ?_)
                · exact absurd rfl c_56
                · refine lv_iload hx hb dL_reads_59 (lv_at hl 1 rfl) ?_
                  refine lv_iconst (v := 1) hx hb dL_reads_61 (by decide) ?_
                  refine lv_iadd hx hb dL_reads_62 ?_
                  refine lv_topi (fun x_62 e_62 => ?_)
                  obtain rfl : x_62 = nI ((p9 + i) + 1) := e_62.trans (nI_add (p9 + i) 1)
                  refine lv_goto (tgt := 67) hx hb dL_reads_63 (by decide) ?_
                  refine lv_istore (lv' := [(5, .int (nI ((p9 + i) + 1))), (7, .int (nI L)), (6, .int (nI P)), (0, .ref (ad 0 0)), (1, .int (nI t)), (2, .int (nI p9)), (3, .int (nI N)), (4, .int (nI sg))]) hx hb dL_reads_67 hl (by decide) rfl (fun ls hl => ?_)
                  refine lv_iload hx hb dL_reads_69 (lv_at hl 1 rfl) ?_
                  refine lv_bipush (v := 10) hx hb dL_reads_71 (by decide) ?_
                  refine lv_idiv hx hb dL_reads_73 (by decide) ?_
                  refine lv_topi (fun x_73 e_73 => ?_)
                  obtain rfl : x_73 = nI (L / 10) := e_73.trans ((pk_div (a := L) (d := 10) (by omega) (by omega) (by omega)))
                  refine lv_istore (lv' := [(7, .int (nI (L / 10))), (5, .int (nI ((p9 + i) + 1))), (6, .int (nI P)), (0, .ref (ad 0 0)), (1, .int (nI t)), (2, .int (nI p9)), (3, .int (nI N)), (4, .int (nI sg))]) hx hb dL_reads_74 hl (by decide) rfl (fun ls hl => ?_)
                  refine lv_goto (tgt := 29) hx hb dL_reads_76 (by decide) ?_
                  refine W.widen (k := 2 * (i + 1)) (n := 12 * (i + 1)) (by omega) (by omega) ?_
                  exact ih2 (i + 1) (L / 10) hiL.2.2 (by omega) (by omega) _ _ _ X (lv_sub hl [0, 1, 2, 3, 4, 5, 6, 7] rfl)
        exact LOOP_29 (e9 + 2) 0 P (Or.inl ⟨Nat.zero_le _, hP⟩) (Nat.zero_le _) (by omega) _ _ _ X (lv_sub hl [0, 2, 1, 3, 4, 5, 6, 7] rfl)
      · have c_12 : ¬ N / P ≤ 9 := fun h => c_12 ((nI_leI (a := N / P) (b := 9) (by omega) (by omega)).mpr h)
        have hke : k < e9 := (by_end he1 he2 h1 hP).2 c_12
        refine lv_iload hx hb dL_reads_15 (lv_at hl 0 rfl) ?_
        refine lv_bipush (v := 10) hx hb dL_reads_17 (by decide) ?_
        refine lv_imul hx hb dL_reads_19 ?_
        refine lv_topi (fun x_19 e_19 => ?_)
        obtain rfl : x_19 = nI (P * 10) := e_19.trans (pk_mul P 10)
        refine lv_istore (lv' := [(6, .int (nI (P * 10))), (5, .int (nI p9)), (0, .ref (ad 0 0)), (1, .int (nI t)), (2, .int (nI p9)), (3, .int (nI N)), (4, .int (nI sg))]) hx hb dL_reads_20 hl (by decide) rfl (fun ls hl => ?_)
        refine lv_goto (tgt := 6) hx hb dL_reads_22 (by decide) ?_
        exact ih (k + 1) (P * 10) (by omega) (by rw [hP]; rfl) (by omega) _ _ _ X (lv_sub hl [0, 1, 2, 3, 4, 5, 6] rfl)
  exact LOOP_6 (e9 + 1) 0 1 (Nat.zero_le _) rfl (by omega) _ _ _ X (lv_sub hl [0, 1, 2, 3, 4, 5, 6] rfl)
