/-! THE LAW'S ARMS, further -/
section ARM
variable {p : Program} {l : Launch} {e : Env} {s : State} {m : MethodId} {below : List Frame} {meth : Method} {c : Code} {b L i n cells slots : Nat} {xs : Nat → Int32} {G : kG} {S T : kSt} {o : Int64} {ad : kAd} {H : Heap} {locs : List Loc} {ls : Array Slot} {Q : State → Prop}
set_option maxHeartbeats 1000000 in
set_option maxRecDepth 100000 in
theorem a_user (hE : kE l s G) (Z : kZ p m c code 7 s #[Value.ref b] wsL_law RL s G) (hX : va_X b L xs s s.heap) (hbl : b < s.heap.size) (hTie : Tie n S T) (hn : n < 512) (X : kX s G s H locs ad (cto G S T o ad)) (hl : lv_has ls 7 (lwLv b i ad)) (hi : i + 5 ≤ L) (hL9 : L ≤ 2560) (r1 : cells + 20 ≤ room_1.cells) (r2 : slots + 400 ≤ room_1.slots) (K : lwK p l e s m below meth c G b i (n + 1) (cells + 20) (slots + 400) Q) : W p l e room_1 s m #[Value.ref b] below meth c H locs cells slots Q (F0 m 132 ls []) := by
  have hx := Z.1.1
  have hb := Z.1.2.1
  have hl : lv_has ls 7 [(4, .int (nI i)), (0, .ref b), (1, .ref (ad 0 0)), (2, .ref (ad 16 0)), (3, .ref (ad 18 0))] := hl
  obtain ⟨⟨hEq, hKd, hS, hLk, hM, hG9, hc9, hV, hB, hM22⟩, hSe⟩ := id hTie
  refine lv_aload_n hx hb dL_law_132 rfl (lv_at hl 2 rfl) ?_
  refine lv_aload_n hx hb dL_law_133 rfl (lv_at hl 1 rfl) ?_
  refine lv_iload hx hb dL_law_134 (lv_at hl 0 rfl) ?_
  refine lv_iconst (v := 1) hx hb dL_law_136 (by decide) ?_
  refine lv_iadd hx hb dL_law_137 ?_
  refine lv_topi (fun x_137 e_137 => ?_)
  obtain rfl : x_137 = nI (i + 1) := e_137.trans (nI_1 _)
  refine va_sld hx hb hX hbl (Nat.not_le.mpr hbl) X.2 (vp_in_nI (show i + 1 < L by omega) (by omega)) dL_law_138 ?_
  refine lv_topi (fun x_138 e_138 => ?_)
  obtain rfl : x_138 = xs (i + 1) := e_138.trans (by rw [nI_clamp (by omega)])
  refine lv_aload_n hx hb dL_law_139 rfl (lv_at hl 4 rfl) ?_
  refine k_xRi X (k_xrunSW (As := [.ref (ad 0 0), .int (xs (i + 1)), .ref (ad 18 0)]) (rest := []) Z X (c_L_user l s G S T o ad (xs (i + 1)) hE hS hLk) (k_cwSW 3 Z.1.2.2.2.2 (inU_7 _ (List.mem_of_getElem? (i := 5) rfl)) (inU_7 _ (List.mem_of_getElem? (i := 6) rfl)) (inU_7 _ (List.mem_of_getElem? (i := 7) rfl)) (inU_7 _ (List.mem_of_getElem? (i := 8) rfl)) rfl rfl (by decide +kernel) ⟨(Nat.le_of_ble_eq_true rfl), (Nat.le_of_ble_eq_true rfl)⟩) rfl hl.1 rfl (Nat.le_of_ble_eq_true rfl) dL_law_140 ⟨r1, r2⟩) (fun _ _ _ _ _ _ _ hp => hp.elim) (fun r_140 ad1 ct1 H locs hp X => ?_)
  obtain ⟨rfl, hAK, hq⟩ := hp
  rw [← hAK.1, ← hAK.2.1, ← hAK.2.2] at hl
  rcases hq with ⟨hC, S1, hR1, rfl⟩ | ⟨hC, rfl⟩
  · have hCe : cUser S (xs (i + 1)) = cUser T (xs (i + 1)) := cUser_e hEq (xs (i + 1))
    obtain ⟨cap, hcap, rfl⟩ := hR1
    have hCT : cUser T (xs (i + 1)) = 0 := hCe.symm.trans hC
    have hT1 := t_user hTie (xs (i + 1)) hC hcap
    have h24 : (oUser (sI T 24 0 0) (xs (i + 1))).1 24 0 = 0 := oUser_24
    have hval : nI (S.2 0 0) = nI (T.2 0 0) := by rw [hEq.c (j := 0)]
    refine lv_istore (lv' := [(5, .int (cUser S (xs (i + 1)))), (4, .int (nI i)), (0, .ref b), (1, .ref (ad1 0 0)), (2, .ref (ad1 16 0)), (3, .ref (ad1 18 0))]) hx hb dL_law_143 hl (by decide) rfl (fun ls hl => ?_)
    refine lv_aload_n hx hb dL_law_145 rfl (lv_at hl 4 rfl) ?_
    refine lv_aload_n hx hb dL_law_146 rfl (lv_at hl 2 rfl) ?_
    refine lv_iload hx hb dL_law_147 (lv_at hl 1 rfl) ?_
    refine lv_iconst (v := 1) hx hb dL_law_149 (by decide) ?_
    refine lv_iadd hx hb dL_law_150 ?_
    refine lv_topi (fun x_150 e_150 => ?_)
    obtain rfl : x_150 = nI (i + 1) := e_150.trans (nI_1 _)
    refine va_sld hx hb hX hbl (Nat.not_le.mpr hbl) X.2 (vp_in_nI (show i + 1 < L by omega) (by omega)) dL_law_151 ?_
    refine lv_topi (fun x_151 e_151 => ?_)
    obtain rfl : x_151 = xs (i + 1) := e_151.trans (by rw [nI_clamp (by omega)])
    refine k_Ri X (k_runV (As := [.int (xs (i + 1))]) (rest := []) Z X (c_X8_user l s G (gU S (xs (i + 1)) cap) T ((nI (S.2 0 0)).toInt64) ad1 (xs (i + 1)) (okN_e hEq hS) ) (k_cwV 1 Z.1.2.2.2.2 (inU_8 _ (List.mem_of_getElem? (i := 15) rfl)) (inU_8 _ (List.mem_of_getElem? (i := 16) rfl)) (inU_8 _ (List.mem_of_getElem? (i := 17) rfl)) (inU_1 _ (List.mem_of_getElem? (i := 5) rfl)) (inU_8 _ (List.mem_of_getElem? (i := 18) rfl)) rfl rfl (by decide +kernel) ⟨Nat.le_of_ble_eq_true rfl, Nat.le_of_ble_eq_true rfl⟩) (k_recv Z X ct_16 rfl) rfl hl.1 rfl (Nat.le_of_ble_eq_true rfl) dL_law_152 ⟨r1, r2⟩) (fun r_152 ad2 ct2 H locs hp X => ?_)
    obtain ⟨hv, ha_, hb_⟩ := hp
    rw [if_pos hCT] at hb_
    rw [← ha_, hb_] at X
    have hv2 : r_152 = nI (S.2 0 0) := (hv hCT).trans hval.symm
    subst hv2
    refine lv_istore (lv' := [(6, .int (nI (S.2 0 0))), (5, .int (cUser S (xs (i + 1)))), (4, .int (nI i)), (0, .ref b), (1, .ref (ad1 0 0)), (2, .ref (ad1 16 0)), (3, .ref (ad1 18 0))]) hx hb dL_law_155 hl (by decide) rfl (fun ls hl => ?_)
    refine lv_aload_n hx hb dL_law_157 rfl (lv_at hl 5 rfl) ?_
    refine k_Ri X (k_runV (As := []) (rest := []) Z X (c_X8_thrown l s G (gU S (xs (i + 1)) cap) (oUser (sI T 24 0 0) (xs (i + 1))) ((nI (S.2 0 0)).toInt64) ad1) (k_cwV 0 Z.1.2.2.2.2 (inU_9 _ (List.mem_of_getElem? (i := 7) rfl)) (inU_9 _ (List.mem_of_getElem? (i := 8) rfl)) (inU_9 _ (List.mem_of_getElem? (i := 9) rfl)) (inU_1 _ (List.mem_of_getElem? (i := 5) rfl)) (inU_9 _ (List.mem_of_getElem? (i := 10) rfl)) rfl rfl (by decide +kernel) ⟨Nat.le_of_ble_eq_true rfl, Nat.le_of_ble_eq_true rfl⟩) (k_recv Z X ct_16 rfl) rfl hl.1 rfl (Nat.le_of_ble_eq_true rfl) dL_law_158 ⟨r1, r2⟩) (fun r_158 ad2 ct2 H locs hp X => ?_)
    obtain ⟨rfl, ha_, hb_⟩ := hp
    rw [← ha_, hb_] at X
    refine lv_iload hx hb dL_law_161 (lv_at hl 1 rfl) ?_
    refine lv_icmp_eq (tgt := 168) hx hb dL_law_163 (by decide) (fun c_163 => ?_) (fun c_163 => ?_)
    · refine lv_iload hx hb dL_law_168 (lv_at hl 1 rfl) ?_
      refine lv_if_ne (tgt := 185) hx hb dL_law_170 (by decide) (fun c_170 => ?_) (fun c_170 => ?_)
      · exact absurd hC c_170
      · refine lv_aload_n hx hb dL_law_173 rfl (lv_at hl 6 rfl) ?_
        refine lv_iconst (v := 0) hx hb dL_law_174 (by decide) ?_
        refine k_lld (ad := ad1) (k := 18) (i := 0) Z X ct_18 (by unfold vp_in; decide) dL_law_175 ?_
        refine lv_iload hx hb dL_law_176 (lv_at hl 0 rfl) ?_
        refine lv_i2l (v := (nI (S.2 0 0)).toInt64) hx hb dL_law_178 rfl ?_
        refine W.lcmp hx hb dL_law_179 ?_
        refine lv_topi (fun x_179 e_179 => ?_)
        obtain rfl : x_179 = 0 := e_179.trans (lg_self _)
        refine lv_if_eq (tgt := 185) hx hb dL_law_180 (by decide) (fun c_180 => ?_) (fun c_180 => ?_)
        · refine lv_goto (tgt := 1522) hx hb dL_law_185 (by decide) ?_
          exact K _ _ _ _ _ _ _ hT1 X (lv_sub hl [2, 3, 4, 5, 6] rfl)
        · exact absurd c_180 (by decide)
    · exact absurd (h24.trans hC.symm) c_163
  · have hCe : cUser S (xs (i + 1)) = cUser T (xs (i + 1)) := cUser_e hEq (xs (i + 1))
    have hCT : ¬ cUser T (xs (i + 1)) = 0 := fun z => hC (hCe.trans z)
    refine lv_istore (lv' := [(5, .int (cUser S (xs (i + 1)))), (4, .int (nI i)), (0, .ref b), (1, .ref (ad1 0 0)), (2, .ref (ad1 16 0)), (3, .ref (ad1 18 0))]) hx hb dL_law_143 hl (by decide) rfl (fun ls hl => ?_)
    refine lv_aload_n hx hb dL_law_145 rfl (lv_at hl 4 rfl) ?_
    refine lv_aload_n hx hb dL_law_146 rfl (lv_at hl 2 rfl) ?_
    refine lv_iload hx hb dL_law_147 (lv_at hl 1 rfl) ?_
    refine lv_iconst (v := 1) hx hb dL_law_149 (by decide) ?_
    refine lv_iadd hx hb dL_law_150 ?_
    refine lv_topi (fun x_150 e_150 => ?_)
    obtain rfl : x_150 = nI (i + 1) := e_150.trans (nI_1 _)
    refine va_sld hx hb hX hbl (Nat.not_le.mpr hbl) X.2 (vp_in_nI (show i + 1 < L by omega) (by omega)) dL_law_151 ?_
    refine lv_topi (fun x_151 e_151 => ?_)
    obtain rfl : x_151 = xs (i + 1) := e_151.trans (by rw [nI_clamp (by omega)])
    refine k_Ri X (k_runV (As := [.int (xs (i + 1))]) (rest := []) Z X (c_X8_user l s G S T o ad1 (xs (i + 1)) (okN_e hEq hS) ) (k_cwV 1 Z.1.2.2.2.2 (inU_8 _ (List.mem_of_getElem? (i := 15) rfl)) (inU_8 _ (List.mem_of_getElem? (i := 16) rfl)) (inU_8 _ (List.mem_of_getElem? (i := 17) rfl)) (inU_1 _ (List.mem_of_getElem? (i := 5) rfl)) (inU_8 _ (List.mem_of_getElem? (i := 18) rfl)) rfl rfl (by decide +kernel) ⟨Nat.le_of_ble_eq_true rfl, Nat.le_of_ble_eq_true rfl⟩) (k_recv Z X ct_16 rfl) rfl hl.1 rfl (Nat.le_of_ble_eq_true rfl) dL_law_152 ⟨r1, r2⟩) (fun r_152 ad2 ct2 H locs hp X => ?_)
    obtain ⟨hv, ha_, hb_⟩ := hp
    rw [if_neg hCT] at hb_
    rw [← ha_, hb_] at X
    refine lv_istore (lv' := [(6, .int r_152), (5, .int (cUser S (xs (i + 1)))), (4, .int (nI i)), (0, .ref b), (1, .ref (ad1 0 0)), (2, .ref (ad1 16 0)), (3, .ref (ad1 18 0))]) hx hb dL_law_155 hl (by decide) rfl (fun ls hl => ?_)
    refine lv_aload_n hx hb dL_law_157 rfl (lv_at hl 5 rfl) ?_
    refine k_Ri X (k_runV (As := []) (rest := []) Z X (c_X8_thrown l s G S (sI T 24 0 (cUser T (xs (i + 1)))) o ad1) (k_cwV 0 Z.1.2.2.2.2 (inU_9 _ (List.mem_of_getElem? (i := 7) rfl)) (inU_9 _ (List.mem_of_getElem? (i := 8) rfl)) (inU_9 _ (List.mem_of_getElem? (i := 9) rfl)) (inU_1 _ (List.mem_of_getElem? (i := 5) rfl)) (inU_9 _ (List.mem_of_getElem? (i := 10) rfl)) rfl rfl (by decide +kernel) ⟨Nat.le_of_ble_eq_true rfl, Nat.le_of_ble_eq_true rfl⟩) (k_recv Z X ct_16 rfl) rfl hl.1 rfl (Nat.le_of_ble_eq_true rfl) dL_law_158 ⟨r1, r2⟩) (fun r_158 ad2 ct2 H locs hp X => ?_)
    obtain ⟨rfl, ha_, hb_⟩ := hp
    rw [← ha_, hb_] at X
    refine lv_iload hx hb dL_law_161 (lv_at hl 1 rfl) ?_
    refine lv_icmp_eq (tgt := 168) hx hb dL_law_163 (by decide) (fun c_163 => ?_) (fun c_163 => ?_)
    · refine lv_iload hx hb dL_law_168 (lv_at hl 1 rfl) ?_
      refine lv_if_ne (tgt := 185) hx hb dL_law_170 (by decide) (fun c_170 => ?_) (fun c_170 => ?_)
      · refine lv_goto (tgt := 1522) hx hb dL_law_185 (by decide) ?_
        exact K _ _ _ _ _ _ _ ((hTie.t24 _).up (Nat.le_succ n)) X (lv_sub hl [2, 3, 4, 5, 6] rfl)
      · exact absurd c_170 hC
    · exact absurd (sI_s.trans hCe.symm) c_163
set_option maxHeartbeats 1000000 in
set_option maxRecDepth 100000 in
theorem a_role (hE : kE l s G) (Z : kZ p m c code 7 s #[Value.ref b] wsL_law RL s G) (hX : va_X b L xs s s.heap) (hbl : b < s.heap.size) (hTie : Tie n S T) (hn : n < 512) (X : kX s G s H locs ad (cto G S T o ad)) (hl : lv_has ls 7 (lwLv b i ad)) (hi : i + 5 ≤ L) (hL9 : L ≤ 2560) (r1 : cells + 20 ≤ room_1.cells) (r2 : slots + 400 ≤ room_1.slots) (K : lwK p l e s m below meth c G b i (n + 1) (cells + 20) (slots + 400) Q) : W p l e room_1 s m #[Value.ref b] below meth c H locs cells slots Q (F0 m 188 ls []) := by
  have hx := Z.1.1
  have hb := Z.1.2.1
  have hl : lv_has ls 7 [(4, .int (nI i)), (0, .ref b), (1, .ref (ad 0 0)), (2, .ref (ad 16 0)), (3, .ref (ad 18 0))] := hl
  obtain ⟨⟨hEq, hKd, hS, hLk, hM, hG9, hc9, hV, hB, hM22⟩, hSe⟩ := id hTie
  refine lv_aload_n hx hb dL_law_188 rfl (lv_at hl 2 rfl) ?_
  refine lv_aload_n hx hb dL_law_189 rfl (lv_at hl 1 rfl) ?_
  refine lv_iload hx hb dL_law_190 (lv_at hl 0 rfl) ?_
  refine lv_iconst (v := 1) hx hb dL_law_192 (by decide) ?_
  refine lv_iadd hx hb dL_law_193 ?_
  refine lv_topi (fun x_193 e_193 => ?_)
  obtain rfl : x_193 = nI (i + 1) := e_193.trans (nI_1 _)
  refine va_sld hx hb hX hbl (Nat.not_le.mpr hbl) X.2 (vp_in_nI (show i + 1 < L by omega) (by omega)) dL_law_194 ?_
  refine lv_topi (fun x_194 e_194 => ?_)
  obtain rfl : x_194 = xs (i + 1) := e_194.trans (by rw [nI_clamp (by omega)])
  refine lv_aload_n hx hb dL_law_195 rfl (lv_at hl 1 rfl) ?_
  refine lv_iload hx hb dL_law_196 (lv_at hl 0 rfl) ?_
  refine lv_iconst (v := 2) hx hb dL_law_198 (by decide) ?_
  refine lv_iadd hx hb dL_law_199 ?_
  refine lv_topi (fun x_199 e_199 => ?_)
  obtain rfl : x_199 = nI (i + 2) := e_199.trans (nI_add _ 2)
  refine va_sld hx hb hX hbl (Nat.not_le.mpr hbl) X.2 (vp_in_nI (show i + 2 < L by omega) (by omega)) dL_law_200 ?_
  refine lv_topi (fun x_200 e_200 => ?_)
  obtain rfl : x_200 = xs (i + 2) := e_200.trans (by rw [nI_clamp (by omega)])
  refine lv_aload_n hx hb dL_law_201 rfl (lv_at hl 4 rfl) ?_
  refine k_xRi X (k_xrunSW (As := [.ref (ad 0 0), .int (xs (i + 1)), .int (xs (i + 2)), .ref (ad 18 0)]) (rest := []) Z X (c_L_role l s G S T o ad (xs (i + 1)) (xs (i + 2)) hE hS hLk (fun a u ha hu => (hM a u ha hu).1)) (k_cwSW 4 Z.1.2.2.2.2 (inU_9 _ (List.mem_of_getElem? (i := 11) rfl)) (inU_9 _ (List.mem_of_getElem? (i := 12) rfl)) (inU_7 _ (List.mem_of_getElem? (i := 7) rfl)) (inU_9 _ (List.mem_of_getElem? (i := 13) rfl)) rfl rfl (by decide +kernel) ⟨(Nat.le_of_ble_eq_true rfl), (Nat.le_of_ble_eq_true rfl)⟩) rfl hl.1 rfl (Nat.le_of_ble_eq_true rfl) dL_law_202 ⟨r1, r2⟩) (fun _ _ _ _ _ _ _ hp => hp.elim) (fun r_202 ad1 ct1 H locs hp X => ?_)
  obtain ⟨rfl, hAK, hq⟩ := hp
  rw [← hAK.1, ← hAK.2.1, ← hAK.2.2] at hl
  rcases hq with ⟨hC, S1, hR1, rfl⟩ | ⟨hC, rfl⟩
  · have hCe : cRole S (xs (i + 1)) (xs (i + 2)) = cRole T (xs (i + 1)) (xs (i + 2)) := cRole_e hEq (xs (i + 1)) (xs (i + 2))
    have hR1 : S1 = oRole S (kdS S) (xs (i + 1)) (xs (i + 2)) := hR1
    rw [hR1] at X
    have hCT : cRole T (xs (i + 1)) (xs (i + 2)) = 0 := hCe.symm.trans hC
    obtain ⟨hT1, h24, hval⟩ := t_role hTie (xs (i + 1)) (xs (i + 2))
    refine lv_istore (lv' := [(5, .int (cRole S (xs (i + 1)) (xs (i + 2)))), (4, .int (nI i)), (0, .ref b), (1, .ref (ad1 0 0)), (2, .ref (ad1 16 0)), (3, .ref (ad1 18 0))]) hx hb dL_law_205 hl (by decide) rfl (fun ls hl => ?_)
    refine lv_aload_n hx hb dL_law_207 rfl (lv_at hl 4 rfl) ?_
    refine lv_aload_n hx hb dL_law_208 rfl (lv_at hl 2 rfl) ?_
    refine lv_iload hx hb dL_law_209 (lv_at hl 1 rfl) ?_
    refine lv_iconst (v := 1) hx hb dL_law_211 (by decide) ?_
    refine lv_iadd hx hb dL_law_212 ?_
    refine lv_topi (fun x_212 e_212 => ?_)
    obtain rfl : x_212 = nI (i + 1) := e_212.trans (nI_1 _)
    refine va_sld hx hb hX hbl (Nat.not_le.mpr hbl) X.2 (vp_in_nI (show i + 1 < L by omega) (by omega)) dL_law_213 ?_
    refine lv_topi (fun x_213 e_213 => ?_)
    obtain rfl : x_213 = xs (i + 1) := e_213.trans (by rw [nI_clamp (by omega)])
    refine lv_aload_n hx hb dL_law_214 rfl (lv_at hl 2 rfl) ?_
    refine lv_iload hx hb dL_law_215 (lv_at hl 1 rfl) ?_
    refine lv_iconst (v := 2) hx hb dL_law_217 (by decide) ?_
    refine lv_iadd hx hb dL_law_218 ?_
    refine lv_topi (fun x_218 e_218 => ?_)
    obtain rfl : x_218 = nI (i + 2) := e_218.trans (nI_add _ 2)
    refine va_sld hx hb hX hbl (Nat.not_le.mpr hbl) X.2 (vp_in_nI (show i + 2 < L by omega) (by omega)) dL_law_219 ?_
    refine lv_topi (fun x_219 e_219 => ?_)
    obtain rfl : x_219 = xs (i + 2) := e_219.trans (by rw [nI_clamp (by omega)])
    refine k_Ri X (k_runV (As := [.int (xs (i + 1)), .int (xs (i + 2))]) (rest := []) Z X (c_X8_role l s G (oRole S (kdS S) (xs (i + 1)) (xs (i + 2))) T ((S.1 1 (cl (xs (i + 1)))).toInt64) ad1 (xs (i + 1)) (xs (i + 2)) (okN_e hEq hS) ) (k_cwV 2 Z.1.2.2.2.2 (inU_12 _ (List.mem_of_getElem? (i := 5) rfl)) (inU_12 _ (List.mem_of_getElem? (i := 6) rfl)) (inU_12 _ (List.mem_of_getElem? (i := 7) rfl)) (inU_1 _ (List.mem_of_getElem? (i := 5) rfl)) (inU_12 _ (List.mem_of_getElem? (i := 8) rfl)) rfl rfl (by decide +kernel) ⟨Nat.le_of_ble_eq_true rfl, Nat.le_of_ble_eq_true rfl⟩) (k_recv Z X ct_16 rfl) rfl hl.1 rfl (Nat.le_of_ble_eq_true rfl) dL_law_220 ⟨r1, r2⟩) (fun r_220 ad2 ct2 H locs hp X => ?_)
    obtain ⟨hv, ha_, hb_⟩ := hp
    rw [if_pos hCT] at hb_
    rw [← ha_, hb_] at X
    have hv2 : r_220 = S.1 1 (cl (xs (i + 1))) := (hv hCT).trans hval.symm
    subst hv2
    refine lv_istore (lv' := [(6, .int (S.1 1 (cl (xs (i + 1))))), (5, .int (cRole S (xs (i + 1)) (xs (i + 2)))), (4, .int (nI i)), (0, .ref b), (1, .ref (ad1 0 0)), (2, .ref (ad1 16 0)), (3, .ref (ad1 18 0))]) hx hb dL_law_223 hl (by decide) rfl (fun ls hl => ?_)
    refine lv_aload_n hx hb dL_law_225 rfl (lv_at hl 5 rfl) ?_
    refine k_Ri X (k_runV (As := []) (rest := []) Z X (c_X8_thrown l s G (oRole S (kdS S) (xs (i + 1)) (xs (i + 2))) (oRole (sI T 24 0 0) (kdT T) (xs (i + 1)) (xs (i + 2))) ((S.1 1 (cl (xs (i + 1)))).toInt64) ad1) (k_cwV 0 Z.1.2.2.2.2 (inU_9 _ (List.mem_of_getElem? (i := 7) rfl)) (inU_9 _ (List.mem_of_getElem? (i := 8) rfl)) (inU_9 _ (List.mem_of_getElem? (i := 9) rfl)) (inU_1 _ (List.mem_of_getElem? (i := 5) rfl)) (inU_9 _ (List.mem_of_getElem? (i := 10) rfl)) rfl rfl (by decide +kernel) ⟨Nat.le_of_ble_eq_true rfl, Nat.le_of_ble_eq_true rfl⟩) (k_recv Z X ct_16 rfl) rfl hl.1 rfl (Nat.le_of_ble_eq_true rfl) dL_law_226 ⟨r1, r2⟩) (fun r_226 ad2 ct2 H locs hp X => ?_)
    obtain ⟨rfl, ha_, hb_⟩ := hp
    rw [← ha_, hb_] at X
    refine lv_iload hx hb dL_law_229 (lv_at hl 1 rfl) ?_
    refine lv_icmp_eq (tgt := 236) hx hb dL_law_231 (by decide) (fun c_231 => ?_) (fun c_231 => ?_)
    · refine lv_iload hx hb dL_law_236 (lv_at hl 1 rfl) ?_
      refine lv_if_ne (tgt := 253) hx hb dL_law_238 (by decide) (fun c_238 => ?_) (fun c_238 => ?_)
      · exact absurd hC c_238
      · refine lv_aload_n hx hb dL_law_241 rfl (lv_at hl 6 rfl) ?_
        refine lv_iconst (v := 0) hx hb dL_law_242 (by decide) ?_
        refine k_lld (ad := ad1) (k := 18) (i := 0) Z X ct_18 (by unfold vp_in; decide) dL_law_243 ?_
        refine lv_iload hx hb dL_law_244 (lv_at hl 0 rfl) ?_
        refine lv_i2l (v := (S.1 1 (cl (xs (i + 1)))).toInt64) hx hb dL_law_246 rfl ?_
        refine W.lcmp hx hb dL_law_247 ?_
        refine lv_topi (fun x_247 e_247 => ?_)
        obtain rfl : x_247 = 0 := e_247.trans (lg_self _)
        refine lv_if_eq (tgt := 253) hx hb dL_law_248 (by decide) (fun c_248 => ?_) (fun c_248 => ?_)
        · refine lv_goto (tgt := 1522) hx hb dL_law_253 (by decide) ?_
          exact K _ _ _ _ _ _ _ hT1 X (lv_sub hl [2, 3, 4, 5, 6] rfl)
        · exact absurd c_248 (by decide)
    · exact absurd (h24.trans hC.symm) c_231
  · have hCe : cRole S (xs (i + 1)) (xs (i + 2)) = cRole T (xs (i + 1)) (xs (i + 2)) := cRole_e hEq (xs (i + 1)) (xs (i + 2))
    have hCT : ¬ cRole T (xs (i + 1)) (xs (i + 2)) = 0 := fun z => hC (hCe.trans z)
    refine lv_istore (lv' := [(5, .int (cRole S (xs (i + 1)) (xs (i + 2)))), (4, .int (nI i)), (0, .ref b), (1, .ref (ad1 0 0)), (2, .ref (ad1 16 0)), (3, .ref (ad1 18 0))]) hx hb dL_law_205 hl (by decide) rfl (fun ls hl => ?_)
    refine lv_aload_n hx hb dL_law_207 rfl (lv_at hl 4 rfl) ?_
    refine lv_aload_n hx hb dL_law_208 rfl (lv_at hl 2 rfl) ?_
    refine lv_iload hx hb dL_law_209 (lv_at hl 1 rfl) ?_
    refine lv_iconst (v := 1) hx hb dL_law_211 (by decide) ?_
    refine lv_iadd hx hb dL_law_212 ?_
    refine lv_topi (fun x_212 e_212 => ?_)
    obtain rfl : x_212 = nI (i + 1) := e_212.trans (nI_1 _)
    refine va_sld hx hb hX hbl (Nat.not_le.mpr hbl) X.2 (vp_in_nI (show i + 1 < L by omega) (by omega)) dL_law_213 ?_
    refine lv_topi (fun x_213 e_213 => ?_)
    obtain rfl : x_213 = xs (i + 1) := e_213.trans (by rw [nI_clamp (by omega)])
    refine lv_aload_n hx hb dL_law_214 rfl (lv_at hl 2 rfl) ?_
    refine lv_iload hx hb dL_law_215 (lv_at hl 1 rfl) ?_
    refine lv_iconst (v := 2) hx hb dL_law_217 (by decide) ?_
    refine lv_iadd hx hb dL_law_218 ?_
    refine lv_topi (fun x_218 e_218 => ?_)
    obtain rfl : x_218 = nI (i + 2) := e_218.trans (nI_add _ 2)
    refine va_sld hx hb hX hbl (Nat.not_le.mpr hbl) X.2 (vp_in_nI (show i + 2 < L by omega) (by omega)) dL_law_219 ?_
    refine lv_topi (fun x_219 e_219 => ?_)
    obtain rfl : x_219 = xs (i + 2) := e_219.trans (by rw [nI_clamp (by omega)])
    refine k_Ri X (k_runV (As := [.int (xs (i + 1)), .int (xs (i + 2))]) (rest := []) Z X (c_X8_role l s G S T o ad1 (xs (i + 1)) (xs (i + 2)) (okN_e hEq hS) ) (k_cwV 2 Z.1.2.2.2.2 (inU_12 _ (List.mem_of_getElem? (i := 5) rfl)) (inU_12 _ (List.mem_of_getElem? (i := 6) rfl)) (inU_12 _ (List.mem_of_getElem? (i := 7) rfl)) (inU_1 _ (List.mem_of_getElem? (i := 5) rfl)) (inU_12 _ (List.mem_of_getElem? (i := 8) rfl)) rfl rfl (by decide +kernel) ⟨Nat.le_of_ble_eq_true rfl, Nat.le_of_ble_eq_true rfl⟩) (k_recv Z X ct_16 rfl) rfl hl.1 rfl (Nat.le_of_ble_eq_true rfl) dL_law_220 ⟨r1, r2⟩) (fun r_220 ad2 ct2 H locs hp X => ?_)
    obtain ⟨hv, ha_, hb_⟩ := hp
    rw [if_neg hCT] at hb_
    rw [← ha_, hb_] at X
    refine lv_istore (lv' := [(6, .int r_220), (5, .int (cRole S (xs (i + 1)) (xs (i + 2)))), (4, .int (nI i)), (0, .ref b), (1, .ref (ad1 0 0)), (2, .ref (ad1 16 0)), (3, .ref (ad1 18 0))]) hx hb dL_law_223 hl (by decide) rfl (fun ls hl => ?_)
    refine lv_aload_n hx hb dL_law_225 rfl (lv_at hl 5 rfl) ?_
    refine k_Ri X (k_runV (As := []) (rest := []) Z X (c_X8_thrown l s G S (sI T 24 0 (cRole T (xs (i + 1)) (xs (i + 2)))) o ad1) (k_cwV 0 Z.1.2.2.2.2 (inU_9 _ (List.mem_of_getElem? (i := 7) rfl)) (inU_9 _ (List.mem_of_getElem? (i := 8) rfl)) (inU_9 _ (List.mem_of_getElem? (i := 9) rfl)) (inU_1 _ (List.mem_of_getElem? (i := 5) rfl)) (inU_9 _ (List.mem_of_getElem? (i := 10) rfl)) rfl rfl (by decide +kernel) ⟨Nat.le_of_ble_eq_true rfl, Nat.le_of_ble_eq_true rfl⟩) (k_recv Z X ct_16 rfl) rfl hl.1 rfl (Nat.le_of_ble_eq_true rfl) dL_law_226 ⟨r1, r2⟩) (fun r_226 ad2 ct2 H locs hp X => ?_)
    obtain ⟨rfl, ha_, hb_⟩ := hp
    rw [← ha_, hb_] at X
    refine lv_iload hx hb dL_law_229 (lv_at hl 1 rfl) ?_
    refine lv_icmp_eq (tgt := 236) hx hb dL_law_231 (by decide) (fun c_231 => ?_) (fun c_231 => ?_)
    · refine lv_iload hx hb dL_law_236 (lv_at hl 1 rfl) ?_
      refine lv_if_ne (tgt := 253) hx hb dL_law_238 (by decide) (fun c_238 => ?_) (fun c_238 => ?_)
      · refine lv_goto (tgt := 1522) hx hb dL_law_253 (by decide) ?_
        exact K _ _ _ _ _ _ _ ((hTie.t24 _).up (Nat.le_succ n)) X (lv_sub hl [2, 3, 4, 5, 6] rfl)
      · exact absurd c_238 hC
    · exact absurd (sI_s.trans hCe.symm) c_231
set_option maxHeartbeats 1000000 in
set_option maxRecDepth 100000 in
theorem a_ends (hE : kE l s G) (Z : kZ p m c code 7 s #[Value.ref b] wsL_law RL s G) (hX : va_X b L xs s s.heap) (hbl : b < s.heap.size) (hTie : Tie n S T) (hn : n < 512) (X : kX s G s H locs ad (cto G S T o ad)) (hl : lv_has ls 7 (lwLv b i ad)) (hi : i + 5 ≤ L) (hL9 : L ≤ 2560) (r1 : cells + 20 ≤ room_1.cells) (r2 : slots + 400 ≤ room_1.slots) (K : lwK p l e s m below meth c G b i (n + 1) (cells + 20) (slots + 400) Q) : W p l e room_1 s m #[Value.ref b] below meth c H locs cells slots Q (F0 m 256 ls []) := by
  have hx := Z.1.1
  have hb := Z.1.2.1
  have hl : lv_has ls 7 [(4, .int (nI i)), (0, .ref b), (1, .ref (ad 0 0)), (2, .ref (ad 16 0)), (3, .ref (ad 18 0))] := hl
  obtain ⟨⟨hEq, hKd, hS, hLk, hM, hG9, hc9, hV, hB, hM22⟩, hSe⟩ := id hTie
  refine lv_aload_n hx hb dL_law_256 rfl (lv_at hl 2 rfl) ?_
  refine lv_aload_n hx hb dL_law_257 rfl (lv_at hl 1 rfl) ?_
  refine lv_iload hx hb dL_law_258 (lv_at hl 0 rfl) ?_
  refine lv_iconst (v := 1) hx hb dL_law_260 (by decide) ?_
  refine lv_iadd hx hb dL_law_261 ?_
  refine lv_topi (fun x_261 e_261 => ?_)
  obtain rfl : x_261 = nI (i + 1) := e_261.trans (nI_1 _)
  refine va_sld hx hb hX hbl (Nat.not_le.mpr hbl) X.2 (vp_in_nI (show i + 1 < L by omega) (by omega)) dL_law_262 ?_
  refine lv_topi (fun x_262 e_262 => ?_)
  obtain rfl : x_262 = xs (i + 1) := e_262.trans (by rw [nI_clamp (by omega)])
  refine lv_aload_n hx hb dL_law_263 rfl (lv_at hl 1 rfl) ?_
  refine lv_iload hx hb dL_law_264 (lv_at hl 0 rfl) ?_
  refine lv_iconst (v := 2) hx hb dL_law_266 (by decide) ?_
  refine lv_iadd hx hb dL_law_267 ?_
  refine lv_topi (fun x_267 e_267 => ?_)
  obtain rfl : x_267 = nI (i + 2) := e_267.trans (nI_add _ 2)
  refine va_sld hx hb hX hbl (Nat.not_le.mpr hbl) X.2 (vp_in_nI (show i + 2 < L by omega) (by omega)) dL_law_268 ?_
  refine lv_topi (fun x_268 e_268 => ?_)
  obtain rfl : x_268 = xs (i + 2) := e_268.trans (by rw [nI_clamp (by omega)])
  refine lv_aload_n hx hb dL_law_269 rfl (lv_at hl 4 rfl) ?_
  refine k_xRi X (k_xrunSW (As := [.ref (ad 0 0), .int (xs (i + 1)), .int (xs (i + 2)), .ref (ad 18 0)]) (rest := []) Z X (c_L_ends l s G S T o ad (xs (i + 1)) (xs (i + 2)) hE hS hLk (fun a u ha hu => (hM a u ha hu).1)) (k_cwSW 4 Z.1.2.2.2.2 (inU_13 _ (List.mem_of_getElem? (i := 7) rfl)) (inU_13 _ (List.mem_of_getElem? (i := 8) rfl)) (inU_7 _ (List.mem_of_getElem? (i := 7) rfl)) (inU_13 _ (List.mem_of_getElem? (i := 9) rfl)) rfl rfl (by decide +kernel) ⟨(Nat.le_of_ble_eq_true rfl), (Nat.le_of_ble_eq_true rfl)⟩) rfl hl.1 rfl (Nat.le_of_ble_eq_true rfl) dL_law_270 ⟨r1, r2⟩) (fun _ _ _ _ _ _ _ hp => hp.elim) (fun r_270 ad1 ct1 H locs hp X => ?_)
  obtain ⟨rfl, hAK, hq⟩ := hp
  rw [← hAK.1, ← hAK.2.1, ← hAK.2.2] at hl
  rcases hq with ⟨hC, S1, hR1, rfl⟩ | ⟨hC, rfl⟩
  · have hCe : cEnds S (xs (i + 1)) (xs (i + 2)) = cEnds T (xs (i + 1)) (xs (i + 2)) := cEnds_e hEq (xs (i + 1)) (xs (i + 2))
    have hR1 : S1 = oEnds S (kdS S) (xs (i + 1)) (xs (i + 2)) := hR1
    rw [hR1] at X
    have hCT : cEnds T (xs (i + 1)) (xs (i + 2)) = 0 := hCe.symm.trans hC
    obtain ⟨hT1, h24, hval⟩ := t_ends hTie (xs (i + 1)) (xs (i + 2))
    refine lv_istore (lv' := [(5, .int (cEnds S (xs (i + 1)) (xs (i + 2)))), (4, .int (nI i)), (0, .ref b), (1, .ref (ad1 0 0)), (2, .ref (ad1 16 0)), (3, .ref (ad1 18 0))]) hx hb dL_law_273 hl (by decide) rfl (fun ls hl => ?_)
    refine lv_aload_n hx hb dL_law_275 rfl (lv_at hl 4 rfl) ?_
    refine lv_aload_n hx hb dL_law_276 rfl (lv_at hl 2 rfl) ?_
    refine lv_iload hx hb dL_law_277 (lv_at hl 1 rfl) ?_
    refine lv_iconst (v := 1) hx hb dL_law_279 (by decide) ?_
    refine lv_iadd hx hb dL_law_280 ?_
    refine lv_topi (fun x_280 e_280 => ?_)
    obtain rfl : x_280 = nI (i + 1) := e_280.trans (nI_1 _)
    refine va_sld hx hb hX hbl (Nat.not_le.mpr hbl) X.2 (vp_in_nI (show i + 1 < L by omega) (by omega)) dL_law_281 ?_
    refine lv_topi (fun x_281 e_281 => ?_)
    obtain rfl : x_281 = xs (i + 1) := e_281.trans (by rw [nI_clamp (by omega)])
    refine lv_aload_n hx hb dL_law_282 rfl (lv_at hl 2 rfl) ?_
    refine lv_iload hx hb dL_law_283 (lv_at hl 1 rfl) ?_
    refine lv_iconst (v := 2) hx hb dL_law_285 (by decide) ?_
    refine lv_iadd hx hb dL_law_286 ?_
    refine lv_topi (fun x_286 e_286 => ?_)
    obtain rfl : x_286 = nI (i + 2) := e_286.trans (nI_add _ 2)
    refine va_sld hx hb hX hbl (Nat.not_le.mpr hbl) X.2 (vp_in_nI (show i + 2 < L by omega) (by omega)) dL_law_287 ?_
    refine lv_topi (fun x_287 e_287 => ?_)
    obtain rfl : x_287 = xs (i + 2) := e_287.trans (by rw [nI_clamp (by omega)])
    refine k_Ri X (k_runV (As := [.int (xs (i + 1)), .int (xs (i + 2))]) (rest := []) Z X (c_X8_ends l s G (oEnds S (kdS S) (xs (i + 1)) (xs (i + 2))) T ((vEnds S (xs (i + 2))).toInt64) ad1 (xs (i + 1)) (xs (i + 2)) (okN_e hEq hS) ) (k_cwV 2 Z.1.2.2.2.2 (inU_13 _ (List.mem_of_getElem? (i := 15) rfl)) (inU_13 _ (List.mem_of_getElem? (i := 16) rfl)) (inU_13 _ (List.mem_of_getElem? (i := 17) rfl)) (inU_1 _ (List.mem_of_getElem? (i := 5) rfl)) (inU_13 _ (List.mem_of_getElem? (i := 18) rfl)) rfl rfl (by decide +kernel) ⟨Nat.le_of_ble_eq_true rfl, Nat.le_of_ble_eq_true rfl⟩) (k_recv Z X ct_16 rfl) rfl hl.1 rfl (Nat.le_of_ble_eq_true rfl) dL_law_288 ⟨r1, r2⟩) (fun r_288 ad2 ct2 H locs hp X => ?_)
    obtain ⟨hv, ha_, hb_⟩ := hp
    rw [if_pos hCT] at hb_
    rw [← ha_, hb_] at X
    have hv2 : r_288 = vEnds S (xs (i + 2)) := (hv hCT).trans hval.symm
    subst hv2
    refine lv_istore (lv' := [(6, .int (vEnds S (xs (i + 2)))), (5, .int (cEnds S (xs (i + 1)) (xs (i + 2)))), (4, .int (nI i)), (0, .ref b), (1, .ref (ad1 0 0)), (2, .ref (ad1 16 0)), (3, .ref (ad1 18 0))]) hx hb dL_law_291 hl (by decide) rfl (fun ls hl => ?_)
    refine lv_aload_n hx hb dL_law_293 rfl (lv_at hl 5 rfl) ?_
    refine k_Ri X (k_runV (As := []) (rest := []) Z X (c_X8_thrown l s G (oEnds S (kdS S) (xs (i + 1)) (xs (i + 2))) (oEnds (sI T 24 0 0) (kdT T) (xs (i + 1)) (xs (i + 2))) ((vEnds S (xs (i + 2))).toInt64) ad1) (k_cwV 0 Z.1.2.2.2.2 (inU_9 _ (List.mem_of_getElem? (i := 7) rfl)) (inU_9 _ (List.mem_of_getElem? (i := 8) rfl)) (inU_9 _ (List.mem_of_getElem? (i := 9) rfl)) (inU_1 _ (List.mem_of_getElem? (i := 5) rfl)) (inU_9 _ (List.mem_of_getElem? (i := 10) rfl)) rfl rfl (by decide +kernel) ⟨Nat.le_of_ble_eq_true rfl, Nat.le_of_ble_eq_true rfl⟩) (k_recv Z X ct_16 rfl) rfl hl.1 rfl (Nat.le_of_ble_eq_true rfl) dL_law_294 ⟨r1, r2⟩) (fun r_294 ad2 ct2 H locs hp X => ?_)
    obtain ⟨rfl, ha_, hb_⟩ := hp
    rw [← ha_, hb_] at X
    refine lv_iload hx hb dL_law_297 (lv_at hl 1 rfl) ?_
    refine lv_icmp_eq (tgt := 304) hx hb dL_law_299 (by decide) (fun c_299 => ?_) (fun c_299 => ?_)
    · refine lv_iload hx hb dL_law_304 (lv_at hl 1 rfl) ?_
      refine lv_if_ne (tgt := 321) hx hb dL_law_306 (by decide) (fun c_306 => ?_) (fun c_306 => ?_)
      · exact absurd hC c_306
      · refine lv_aload_n hx hb dL_law_309 rfl (lv_at hl 6 rfl) ?_
        refine lv_iconst (v := 0) hx hb dL_law_310 (by decide) ?_
        refine k_lld (ad := ad1) (k := 18) (i := 0) Z X ct_18 (by unfold vp_in; decide) dL_law_311 ?_
        refine lv_iload hx hb dL_law_312 (lv_at hl 0 rfl) ?_
        refine lv_i2l (v := (vEnds S (xs (i + 2))).toInt64) hx hb dL_law_314 rfl ?_
        refine W.lcmp hx hb dL_law_315 ?_
        refine lv_topi (fun x_315 e_315 => ?_)
        obtain rfl : x_315 = 0 := e_315.trans (lg_self _)
        refine lv_if_eq (tgt := 321) hx hb dL_law_316 (by decide) (fun c_316 => ?_) (fun c_316 => ?_)
        · refine lv_goto (tgt := 1522) hx hb dL_law_321 (by decide) ?_
          exact K _ _ _ _ _ _ _ hT1 X (lv_sub hl [2, 3, 4, 5, 6] rfl)
        · exact absurd c_316 (by decide)
    · exact absurd (h24.trans hC.symm) c_299
  · have hCe : cEnds S (xs (i + 1)) (xs (i + 2)) = cEnds T (xs (i + 1)) (xs (i + 2)) := cEnds_e hEq (xs (i + 1)) (xs (i + 2))
    have hCT : ¬ cEnds T (xs (i + 1)) (xs (i + 2)) = 0 := fun z => hC (hCe.trans z)
    refine lv_istore (lv' := [(5, .int (cEnds S (xs (i + 1)) (xs (i + 2)))), (4, .int (nI i)), (0, .ref b), (1, .ref (ad1 0 0)), (2, .ref (ad1 16 0)), (3, .ref (ad1 18 0))]) hx hb dL_law_273 hl (by decide) rfl (fun ls hl => ?_)
    refine lv_aload_n hx hb dL_law_275 rfl (lv_at hl 4 rfl) ?_
    refine lv_aload_n hx hb dL_law_276 rfl (lv_at hl 2 rfl) ?_
    refine lv_iload hx hb dL_law_277 (lv_at hl 1 rfl) ?_
    refine lv_iconst (v := 1) hx hb dL_law_279 (by decide) ?_
    refine lv_iadd hx hb dL_law_280 ?_
    refine lv_topi (fun x_280 e_280 => ?_)
    obtain rfl : x_280 = nI (i + 1) := e_280.trans (nI_1 _)
    refine va_sld hx hb hX hbl (Nat.not_le.mpr hbl) X.2 (vp_in_nI (show i + 1 < L by omega) (by omega)) dL_law_281 ?_
    refine lv_topi (fun x_281 e_281 => ?_)
    obtain rfl : x_281 = xs (i + 1) := e_281.trans (by rw [nI_clamp (by omega)])
    refine lv_aload_n hx hb dL_law_282 rfl (lv_at hl 2 rfl) ?_
    refine lv_iload hx hb dL_law_283 (lv_at hl 1 rfl) ?_
    refine lv_iconst (v := 2) hx hb dL_law_285 (by decide) ?_
    refine lv_iadd hx hb dL_law_286 ?_
    refine lv_topi (fun x_286 e_286 => ?_)
    obtain rfl : x_286 = nI (i + 2) := e_286.trans (nI_add _ 2)
    refine va_sld hx hb hX hbl (Nat.not_le.mpr hbl) X.2 (vp_in_nI (show i + 2 < L by omega) (by omega)) dL_law_287 ?_
    refine lv_topi (fun x_287 e_287 => ?_)
    obtain rfl : x_287 = xs (i + 2) := e_287.trans (by rw [nI_clamp (by omega)])
    refine k_Ri X (k_runV (As := [.int (xs (i + 1)), .int (xs (i + 2))]) (rest := []) Z X (c_X8_ends l s G S T o ad1 (xs (i + 1)) (xs (i + 2)) (okN_e hEq hS) ) (k_cwV 2 Z.1.2.2.2.2 (inU_13 _ (List.mem_of_getElem? (i := 15) rfl)) (inU_13 _ (List.mem_of_getElem? (i := 16) rfl)) (inU_13 _ (List.mem_of_getElem? (i := 17) rfl)) (inU_1 _ (List.mem_of_getElem? (i := 5) rfl)) (inU_13 _ (List.mem_of_getElem? (i := 18) rfl)) rfl rfl (by decide +kernel) ⟨Nat.le_of_ble_eq_true rfl, Nat.le_of_ble_eq_true rfl⟩) (k_recv Z X ct_16 rfl) rfl hl.1 rfl (Nat.le_of_ble_eq_true rfl) dL_law_288 ⟨r1, r2⟩) (fun r_288 ad2 ct2 H locs hp X => ?_)
    obtain ⟨hv, ha_, hb_⟩ := hp
    rw [if_neg hCT] at hb_
    rw [← ha_, hb_] at X
    refine lv_istore (lv' := [(6, .int r_288), (5, .int (cEnds S (xs (i + 1)) (xs (i + 2)))), (4, .int (nI i)), (0, .ref b), (1, .ref (ad1 0 0)), (2, .ref (ad1 16 0)), (3, .ref (ad1 18 0))]) hx hb dL_law_291 hl (by decide) rfl (fun ls hl => ?_)
    refine lv_aload_n hx hb dL_law_293 rfl (lv_at hl 5 rfl) ?_
    refine k_Ri X (k_runV (As := []) (rest := []) Z X (c_X8_thrown l s G S (sI T 24 0 (cEnds T (xs (i + 1)) (xs (i + 2)))) o ad1) (k_cwV 0 Z.1.2.2.2.2 (inU_9 _ (List.mem_of_getElem? (i := 7) rfl)) (inU_9 _ (List.mem_of_getElem? (i := 8) rfl)) (inU_9 _ (List.mem_of_getElem? (i := 9) rfl)) (inU_1 _ (List.mem_of_getElem? (i := 5) rfl)) (inU_9 _ (List.mem_of_getElem? (i := 10) rfl)) rfl rfl (by decide +kernel) ⟨Nat.le_of_ble_eq_true rfl, Nat.le_of_ble_eq_true rfl⟩) (k_recv Z X ct_16 rfl) rfl hl.1 rfl (Nat.le_of_ble_eq_true rfl) dL_law_294 ⟨r1, r2⟩) (fun r_294 ad2 ct2 H locs hp X => ?_)
    obtain ⟨rfl, ha_, hb_⟩ := hp
    rw [← ha_, hb_] at X
    refine lv_iload hx hb dL_law_297 (lv_at hl 1 rfl) ?_
    refine lv_icmp_eq (tgt := 304) hx hb dL_law_299 (by decide) (fun c_299 => ?_) (fun c_299 => ?_)
    · refine lv_iload hx hb dL_law_304 (lv_at hl 1 rfl) ?_
      refine lv_if_ne (tgt := 321) hx hb dL_law_306 (by decide) (fun c_306 => ?_) (fun c_306 => ?_)
      · refine lv_goto (tgt := 1522) hx hb dL_law_321 (by decide) ?_
        exact K _ _ _ _ _ _ _ ((hTie.t24 _).up (Nat.le_succ n)) X (lv_sub hl [2, 3, 4, 5, 6] rfl)
      · exact absurd c_306 hC
    · exact absurd (sI_s.trans hCe.symm) c_299
set_option maxHeartbeats 1000000 in
set_option maxRecDepth 100000 in
theorem a_budget (hE : kE l s G) (Z : kZ p m c code 7 s #[Value.ref b] wsL_law RL s G) (hX : va_X b L xs s s.heap) (hbl : b < s.heap.size) (hTie : Tie n S T) (hn : n < 512) (X : kX s G s H locs ad (cto G S T o ad)) (hl : lv_has ls 7 (lwLv b i ad)) (hi : i + 5 ≤ L) (hL9 : L ≤ 2560) (r1 : cells + 20 ≤ room_1.cells) (r2 : slots + 400 ≤ room_1.slots) (K : lwK p l e s m below meth c G b i (n + 1) (cells + 20) (slots + 400) Q) : W p l e room_1 s m #[Value.ref b] below meth c H locs cells slots Q (F0 m 324 ls []) := by
  have hx := Z.1.1
  have hb := Z.1.2.1
  have hl : lv_has ls 7 [(4, .int (nI i)), (0, .ref b), (1, .ref (ad 0 0)), (2, .ref (ad 16 0)), (3, .ref (ad 18 0))] := hl
  obtain ⟨⟨hEq, hKd, hS, hLk, hM, hG9, hc9, hV, hB, hM22⟩, hSe⟩ := id hTie
  refine lv_aload_n hx hb dL_law_324 rfl (lv_at hl 2 rfl) ?_
  refine lv_aload_n hx hb dL_law_325 rfl (lv_at hl 1 rfl) ?_
  refine lv_iload hx hb dL_law_326 (lv_at hl 0 rfl) ?_
  refine lv_iconst (v := 1) hx hb dL_law_328 (by decide) ?_
  refine lv_iadd hx hb dL_law_329 ?_
  refine lv_topi (fun x_329 e_329 => ?_)
  obtain rfl : x_329 = nI (i + 1) := e_329.trans (nI_1 _)
  refine va_sld hx hb hX hbl (Nat.not_le.mpr hbl) X.2 (vp_in_nI (show i + 1 < L by omega) (by omega)) dL_law_330 ?_
  refine lv_topi (fun x_330 e_330 => ?_)
  obtain rfl : x_330 = xs (i + 1) := e_330.trans (by rw [nI_clamp (by omega)])
  refine lv_aload_n hx hb dL_law_331 rfl (lv_at hl 1 rfl) ?_
  refine lv_iload hx hb dL_law_332 (lv_at hl 0 rfl) ?_
  refine lv_iconst (v := 2) hx hb dL_law_334 (by decide) ?_
  refine lv_iadd hx hb dL_law_335 ?_
  refine lv_topi (fun x_335 e_335 => ?_)
  obtain rfl : x_335 = nI (i + 2) := e_335.trans (nI_add _ 2)
  refine va_sld hx hb hX hbl (Nat.not_le.mpr hbl) X.2 (vp_in_nI (show i + 2 < L by omega) (by omega)) dL_law_336 ?_
  refine lv_topi (fun x_336 e_336 => ?_)
  obtain rfl : x_336 = xs (i + 2) := e_336.trans (by rw [nI_clamp (by omega)])
  refine lv_aload_n hx hb dL_law_337 rfl (lv_at hl 4 rfl) ?_
  refine k_xRi X (k_xrunSW (As := [.ref (ad 0 0), .int (xs (i + 1)), .int (xs (i + 2)), .ref (ad 18 0)]) (rest := []) Z X (c_L_budget l s G S T o ad (xs (i + 1)) (xs (i + 2)) hE hS hLk) (k_cwSW 4 Z.1.2.2.2.2 (inU_13 _ (List.mem_of_getElem? (i := 19) rfl)) (inU_13 _ (List.mem_of_getElem? (i := 20) rfl)) (inU_7 _ (List.mem_of_getElem? (i := 7) rfl)) (inU_13 _ (List.mem_of_getElem? (i := 21) rfl)) rfl rfl (by decide +kernel) ⟨(Nat.le_of_ble_eq_true rfl), (Nat.le_of_ble_eq_true rfl)⟩) rfl hl.1 rfl (Nat.le_of_ble_eq_true rfl) dL_law_338 ⟨r1, r2⟩) (fun _ _ _ _ _ _ _ hp => hp.elim) (fun r_338 ad1 ct1 H locs hp X => ?_)
  obtain ⟨rfl, hAK, hq⟩ := hp
  rw [← hAK.1, ← hAK.2.1, ← hAK.2.2] at hl
  rcases hq with ⟨hC, S1, hR1, rfl⟩ | ⟨hC, rfl⟩
  · have hCe : cBudget S (xs (i + 1)) (xs (i + 2)) = cBudget T (xs (i + 1)) (xs (i + 2)) := cBudget_e hEq (xs (i + 1)) (xs (i + 2))
    have hR1 : S1 = oBudget S (xs (i + 1)) (xs (i + 2)) := hR1
    rw [hR1] at X
    have hCT : cBudget T (xs (i + 1)) (xs (i + 2)) = 0 := hCe.symm.trans hC
    obtain ⟨hT1, h24, hval⟩ := t_budget hTie (xs (i + 1)) (xs (i + 2))
    refine lv_istore (lv' := [(5, .int (cBudget S (xs (i + 1)) (xs (i + 2)))), (4, .int (nI i)), (0, .ref b), (1, .ref (ad1 0 0)), (2, .ref (ad1 16 0)), (3, .ref (ad1 18 0))]) hx hb dL_law_341 hl (by decide) rfl (fun ls hl => ?_)
    refine lv_aload_n hx hb dL_law_343 rfl (lv_at hl 4 rfl) ?_
    refine lv_aload_n hx hb dL_law_344 rfl (lv_at hl 2 rfl) ?_
    refine lv_iload hx hb dL_law_345 (lv_at hl 1 rfl) ?_
    refine lv_iconst (v := 1) hx hb dL_law_347 (by decide) ?_
    refine lv_iadd hx hb dL_law_348 ?_
    refine lv_topi (fun x_348 e_348 => ?_)
    obtain rfl : x_348 = nI (i + 1) := e_348.trans (nI_1 _)
    refine va_sld hx hb hX hbl (Nat.not_le.mpr hbl) X.2 (vp_in_nI (show i + 1 < L by omega) (by omega)) dL_law_349 ?_
    refine lv_topi (fun x_349 e_349 => ?_)
    obtain rfl : x_349 = xs (i + 1) := e_349.trans (by rw [nI_clamp (by omega)])
    refine lv_aload_n hx hb dL_law_350 rfl (lv_at hl 2 rfl) ?_
    refine lv_iload hx hb dL_law_351 (lv_at hl 1 rfl) ?_
    refine lv_iconst (v := 2) hx hb dL_law_353 (by decide) ?_
    refine lv_iadd hx hb dL_law_354 ?_
    refine lv_topi (fun x_354 e_354 => ?_)
    obtain rfl : x_354 = nI (i + 2) := e_354.trans (nI_add _ 2)
    refine va_sld hx hb hX hbl (Nat.not_le.mpr hbl) X.2 (vp_in_nI (show i + 2 < L by omega) (by omega)) dL_law_355 ?_
    refine lv_topi (fun x_355 e_355 => ?_)
    obtain rfl : x_355 = xs (i + 2) := e_355.trans (by rw [nI_clamp (by omega)])
    refine k_Ri X (k_runV (As := [.int (xs (i + 1)), .int (xs (i + 2))]) (rest := []) Z X (c_X8_budget l s G (oBudget S (xs (i + 1)) (xs (i + 2))) T ((S.1 3 (cl (xs (i + 1))) + (xs (i + 2))).toInt64) ad1 (xs (i + 1)) (xs (i + 2)) (okN_e hEq hS) ) (k_cwV 2 Z.1.2.2.2.2 (inU_14 _ (List.mem_of_getElem? (i := 9) rfl)) (inU_14 _ (List.mem_of_getElem? (i := 10) rfl)) (inU_14 _ (List.mem_of_getElem? (i := 11) rfl)) (inU_1 _ (List.mem_of_getElem? (i := 5) rfl)) (inU_14 _ (List.mem_of_getElem? (i := 12) rfl)) rfl rfl (by decide +kernel) ⟨Nat.le_of_ble_eq_true rfl, Nat.le_of_ble_eq_true rfl⟩) (k_recv Z X ct_16 rfl) rfl hl.1 rfl (Nat.le_of_ble_eq_true rfl) dL_law_356 ⟨r1, r2⟩) (fun r_356 ad2 ct2 H locs hp X => ?_)
    obtain ⟨hv, ha_, hb_⟩ := hp
    rw [if_pos hCT] at hb_
    rw [← ha_, hb_] at X
    have hv2 : r_356 = S.1 3 (cl (xs (i + 1))) + (xs (i + 2)) := (hv hCT).trans hval.symm
    subst hv2
    refine lv_istore (lv' := [(6, .int (S.1 3 (cl (xs (i + 1))) + (xs (i + 2)))), (5, .int (cBudget S (xs (i + 1)) (xs (i + 2)))), (4, .int (nI i)), (0, .ref b), (1, .ref (ad1 0 0)), (2, .ref (ad1 16 0)), (3, .ref (ad1 18 0))]) hx hb dL_law_359 hl (by decide) rfl (fun ls hl => ?_)
    refine lv_aload_n hx hb dL_law_361 rfl (lv_at hl 5 rfl) ?_
    refine k_Ri X (k_runV (As := []) (rest := []) Z X (c_X8_thrown l s G (oBudget S (xs (i + 1)) (xs (i + 2))) (oBudget (sI T 24 0 0) (xs (i + 1)) (xs (i + 2))) ((S.1 3 (cl (xs (i + 1))) + (xs (i + 2))).toInt64) ad1) (k_cwV 0 Z.1.2.2.2.2 (inU_9 _ (List.mem_of_getElem? (i := 7) rfl)) (inU_9 _ (List.mem_of_getElem? (i := 8) rfl)) (inU_9 _ (List.mem_of_getElem? (i := 9) rfl)) (inU_1 _ (List.mem_of_getElem? (i := 5) rfl)) (inU_9 _ (List.mem_of_getElem? (i := 10) rfl)) rfl rfl (by decide +kernel) ⟨Nat.le_of_ble_eq_true rfl, Nat.le_of_ble_eq_true rfl⟩) (k_recv Z X ct_16 rfl) rfl hl.1 rfl (Nat.le_of_ble_eq_true rfl) dL_law_362 ⟨r1, r2⟩) (fun r_362 ad2 ct2 H locs hp X => ?_)
    obtain ⟨rfl, ha_, hb_⟩ := hp
    rw [← ha_, hb_] at X
    refine lv_iload hx hb dL_law_365 (lv_at hl 1 rfl) ?_
    refine lv_icmp_eq (tgt := 372) hx hb dL_law_367 (by decide) (fun c_367 => ?_) (fun c_367 => ?_)
    · refine lv_iload hx hb dL_law_372 (lv_at hl 1 rfl) ?_
      refine lv_if_ne (tgt := 389) hx hb dL_law_374 (by decide) (fun c_374 => ?_) (fun c_374 => ?_)
      · exact absurd hC c_374
      · refine lv_aload_n hx hb dL_law_377 rfl (lv_at hl 6 rfl) ?_
        refine lv_iconst (v := 0) hx hb dL_law_378 (by decide) ?_
        refine k_lld (ad := ad1) (k := 18) (i := 0) Z X ct_18 (by unfold vp_in; decide) dL_law_379 ?_
        refine lv_iload hx hb dL_law_380 (lv_at hl 0 rfl) ?_
        refine lv_i2l (v := (S.1 3 (cl (xs (i + 1))) + (xs (i + 2))).toInt64) hx hb dL_law_382 rfl ?_
        refine W.lcmp hx hb dL_law_383 ?_
        refine lv_topi (fun x_383 e_383 => ?_)
        obtain rfl : x_383 = 0 := e_383.trans (lg_self _)
        refine lv_if_eq (tgt := 389) hx hb dL_law_384 (by decide) (fun c_384 => ?_) (fun c_384 => ?_)
        · refine lv_goto (tgt := 1522) hx hb dL_law_389 (by decide) ?_
          exact K _ _ _ _ _ _ _ hT1 X (lv_sub hl [2, 3, 4, 5, 6] rfl)
        · exact absurd c_384 (by decide)
    · exact absurd (h24.trans hC.symm) c_367
  · have hCe : cBudget S (xs (i + 1)) (xs (i + 2)) = cBudget T (xs (i + 1)) (xs (i + 2)) := cBudget_e hEq (xs (i + 1)) (xs (i + 2))
    have hCT : ¬ cBudget T (xs (i + 1)) (xs (i + 2)) = 0 := fun z => hC (hCe.trans z)
    refine lv_istore (lv' := [(5, .int (cBudget S (xs (i + 1)) (xs (i + 2)))), (4, .int (nI i)), (0, .ref b), (1, .ref (ad1 0 0)), (2, .ref (ad1 16 0)), (3, .ref (ad1 18 0))]) hx hb dL_law_341 hl (by decide) rfl (fun ls hl => ?_)
    refine lv_aload_n hx hb dL_law_343 rfl (lv_at hl 4 rfl) ?_
    refine lv_aload_n hx hb dL_law_344 rfl (lv_at hl 2 rfl) ?_
    refine lv_iload hx hb dL_law_345 (lv_at hl 1 rfl) ?_
    refine lv_iconst (v := 1) hx hb dL_law_347 (by decide) ?_
    refine lv_iadd hx hb dL_law_348 ?_
    refine lv_topi (fun x_348 e_348 => ?_)
    obtain rfl : x_348 = nI (i + 1) := e_348.trans (nI_1 _)
    refine va_sld hx hb hX hbl (Nat.not_le.mpr hbl) X.2 (vp_in_nI (show i + 1 < L by omega) (by omega)) dL_law_349 ?_
    refine lv_topi (fun x_349 e_349 => ?_)
    obtain rfl : x_349 = xs (i + 1) := e_349.trans (by rw [nI_clamp (by omega)])
    refine lv_aload_n hx hb dL_law_350 rfl (lv_at hl 2 rfl) ?_
    refine lv_iload hx hb dL_law_351 (lv_at hl 1 rfl) ?_
    refine lv_iconst (v := 2) hx hb dL_law_353 (by decide) ?_
    refine lv_iadd hx hb dL_law_354 ?_
    refine lv_topi (fun x_354 e_354 => ?_)
    obtain rfl : x_354 = nI (i + 2) := e_354.trans (nI_add _ 2)
    refine va_sld hx hb hX hbl (Nat.not_le.mpr hbl) X.2 (vp_in_nI (show i + 2 < L by omega) (by omega)) dL_law_355 ?_
    refine lv_topi (fun x_355 e_355 => ?_)
    obtain rfl : x_355 = xs (i + 2) := e_355.trans (by rw [nI_clamp (by omega)])
    refine k_Ri X (k_runV (As := [.int (xs (i + 1)), .int (xs (i + 2))]) (rest := []) Z X (c_X8_budget l s G S T o ad1 (xs (i + 1)) (xs (i + 2)) (okN_e hEq hS) ) (k_cwV 2 Z.1.2.2.2.2 (inU_14 _ (List.mem_of_getElem? (i := 9) rfl)) (inU_14 _ (List.mem_of_getElem? (i := 10) rfl)) (inU_14 _ (List.mem_of_getElem? (i := 11) rfl)) (inU_1 _ (List.mem_of_getElem? (i := 5) rfl)) (inU_14 _ (List.mem_of_getElem? (i := 12) rfl)) rfl rfl (by decide +kernel) ⟨Nat.le_of_ble_eq_true rfl, Nat.le_of_ble_eq_true rfl⟩) (k_recv Z X ct_16 rfl) rfl hl.1 rfl (Nat.le_of_ble_eq_true rfl) dL_law_356 ⟨r1, r2⟩) (fun r_356 ad2 ct2 H locs hp X => ?_)
    obtain ⟨hv, ha_, hb_⟩ := hp
    rw [if_neg hCT] at hb_
    rw [← ha_, hb_] at X
    refine lv_istore (lv' := [(6, .int r_356), (5, .int (cBudget S (xs (i + 1)) (xs (i + 2)))), (4, .int (nI i)), (0, .ref b), (1, .ref (ad1 0 0)), (2, .ref (ad1 16 0)), (3, .ref (ad1 18 0))]) hx hb dL_law_359 hl (by decide) rfl (fun ls hl => ?_)
    refine lv_aload_n hx hb dL_law_361 rfl (lv_at hl 5 rfl) ?_
    refine k_Ri X (k_runV (As := []) (rest := []) Z X (c_X8_thrown l s G S (sI T 24 0 (cBudget T (xs (i + 1)) (xs (i + 2)))) o ad1) (k_cwV 0 Z.1.2.2.2.2 (inU_9 _ (List.mem_of_getElem? (i := 7) rfl)) (inU_9 _ (List.mem_of_getElem? (i := 8) rfl)) (inU_9 _ (List.mem_of_getElem? (i := 9) rfl)) (inU_1 _ (List.mem_of_getElem? (i := 5) rfl)) (inU_9 _ (List.mem_of_getElem? (i := 10) rfl)) rfl rfl (by decide +kernel) ⟨Nat.le_of_ble_eq_true rfl, Nat.le_of_ble_eq_true rfl⟩) (k_recv Z X ct_16 rfl) rfl hl.1 rfl (Nat.le_of_ble_eq_true rfl) dL_law_362 ⟨r1, r2⟩) (fun r_362 ad2 ct2 H locs hp X => ?_)
    obtain ⟨rfl, ha_, hb_⟩ := hp
    rw [← ha_, hb_] at X
    refine lv_iload hx hb dL_law_365 (lv_at hl 1 rfl) ?_
    refine lv_icmp_eq (tgt := 372) hx hb dL_law_367 (by decide) (fun c_367 => ?_) (fun c_367 => ?_)
    · refine lv_iload hx hb dL_law_372 (lv_at hl 1 rfl) ?_
      refine lv_if_ne (tgt := 389) hx hb dL_law_374 (by decide) (fun c_374 => ?_) (fun c_374 => ?_)
      · refine lv_goto (tgt := 1522) hx hb dL_law_389 (by decide) ?_
        exact K _ _ _ _ _ _ _ ((hTie.t24 _).up (Nat.le_succ n)) X (lv_sub hl [2, 3, 4, 5, 6] rfl)
      · exact absurd c_374 hC
    · exact absurd (sI_s.trans hCe.symm) c_367
set_option maxHeartbeats 1000000 in
set_option maxRecDepth 100000 in
theorem a_post (hE : kE l s G) (Z : kZ p m c code 7 s #[Value.ref b] wsL_law RL s G) (hX : va_X b L xs s s.heap) (hbl : b < s.heap.size) (hTie : Tie n S T) (hn : n < 512) (X : kX s G s H locs ad (cto G S T o ad)) (hl : lv_has ls 7 (lwLv b i ad)) (hi : i + 5 ≤ L) (hL9 : L ≤ 2560) (r1 : cells + 20 ≤ room_1.cells) (r2 : slots + 400 ≤ room_1.slots) (K : lwK p l e s m below meth c G b i (n + 1) (cells + 20) (slots + 400) Q) : W p l e room_1 s m #[Value.ref b] below meth c H locs cells slots Q (F0 m 392 ls []) := by
  have hx := Z.1.1
  have hb := Z.1.2.1
  have hl : lv_has ls 7 [(4, .int (nI i)), (0, .ref b), (1, .ref (ad 0 0)), (2, .ref (ad 16 0)), (3, .ref (ad 18 0))] := hl
  obtain ⟨⟨hEq, hKd, hS, hLk, hM, hG9, hc9, hV, hB, hM22⟩, hSe⟩ := id hTie
  refine lv_aload_n hx hb dL_law_392 rfl (lv_at hl 2 rfl) ?_
  refine lv_aload_n hx hb dL_law_393 rfl (lv_at hl 1 rfl) ?_
  refine lv_iload hx hb dL_law_394 (lv_at hl 0 rfl) ?_
  refine lv_iconst (v := 1) hx hb dL_law_396 (by decide) ?_
  refine lv_iadd hx hb dL_law_397 ?_
  refine lv_topi (fun x_397 e_397 => ?_)
  obtain rfl : x_397 = nI (i + 1) := e_397.trans (nI_1 _)
  refine va_sld hx hb hX hbl (Nat.not_le.mpr hbl) X.2 (vp_in_nI (show i + 1 < L by omega) (by omega)) dL_law_398 ?_
  refine lv_topi (fun x_398 e_398 => ?_)
  obtain rfl : x_398 = xs (i + 1) := e_398.trans (by rw [nI_clamp (by omega)])
  refine lv_aload_n hx hb dL_law_399 rfl (lv_at hl 1 rfl) ?_
  refine lv_iload hx hb dL_law_400 (lv_at hl 0 rfl) ?_
  refine lv_iconst (v := 2) hx hb dL_law_402 (by decide) ?_
  refine lv_iadd hx hb dL_law_403 ?_
  refine lv_topi (fun x_403 e_403 => ?_)
  obtain rfl : x_403 = nI (i + 2) := e_403.trans (nI_add _ 2)
  refine va_sld hx hb hX hbl (Nat.not_le.mpr hbl) X.2 (vp_in_nI (show i + 2 < L by omega) (by omega)) dL_law_404 ?_
  refine lv_topi (fun x_404 e_404 => ?_)
  obtain rfl : x_404 = xs (i + 2) := e_404.trans (by rw [nI_clamp (by omega)])
  refine lv_aload_n hx hb dL_law_405 rfl (lv_at hl 1 rfl) ?_
  refine lv_iload hx hb dL_law_406 (lv_at hl 0 rfl) ?_
  refine lv_iconst (v := 3) hx hb dL_law_408 (by decide) ?_
  refine lv_iadd hx hb dL_law_409 ?_
  refine lv_topi (fun x_409 e_409 => ?_)
  obtain rfl : x_409 = nI (i + 3) := e_409.trans (nI_add _ 3)
  refine va_sld hx hb hX hbl (Nat.not_le.mpr hbl) X.2 (vp_in_nI (show i + 3 < L by omega) (by omega)) dL_law_410 ?_
  refine lv_topi (fun x_410 e_410 => ?_)
  obtain rfl : x_410 = xs (i + 3) := e_410.trans (by rw [nI_clamp (by omega)])
  refine lv_aload_n hx hb dL_law_411 rfl (lv_at hl 4 rfl) ?_
  refine k_xRi X (k_xrunSW (As := [.ref (ad 0 0), .int (xs (i + 1)), .int (xs (i + 2)), .int (xs (i + 3)), .ref (ad 18 0)]) (rest := []) Z X (c_L_post l s G S T o ad (xs (i + 1)) (xs (i + 2)) (xs (i + 3)) hE hS hLk) (k_cwSW 5 Z.1.2.2.2.2 (inU_14 _ (List.mem_of_getElem? (i := 18) rfl)) (inU_14 _ (List.mem_of_getElem? (i := 19) rfl)) (inU_7 _ (List.mem_of_getElem? (i := 7) rfl)) (inU_14 _ (List.mem_of_getElem? (i := 20) rfl)) rfl rfl (by decide +kernel) ⟨(Nat.le_of_ble_eq_true rfl), (Nat.le_of_ble_eq_true rfl)⟩) rfl hl.1 rfl (Nat.le_of_ble_eq_true rfl) dL_law_412 ⟨r1, r2⟩) (fun _ _ _ _ _ _ _ hp => hp.elim) (fun r_412 ad1 ct1 H locs hp X => ?_)
  obtain ⟨rfl, hAK, hq⟩ := hp
  rw [← hAK.1, ← hAK.2.1, ← hAK.2.2] at hl
  rcases hq with ⟨hC, S1, hR1, rfl⟩ | ⟨hC, rfl⟩
  · have hCe : cPost S (xs (i + 1)) (xs (i + 2)) (xs (i + 3)) = cPost T (xs (i + 1)) (xs (i + 2)) (xs (i + 3)) := cPost_e hEq (xs (i + 1)) (xs (i + 2)) (xs (i + 3))
    obtain ⟨cap, hcap, rfl⟩ := hR1
    have hCT : cPost T (xs (i + 1)) (xs (i + 2)) (xs (i + 3)) = 0 := hCe.symm.trans hC
    have hT1 := t_post hTie (xs (i + 1)) (xs (i + 2)) (xs (i + 3)) hC hcap
    have h24 : (oPostM (sI T 24 0 0) (xs (i + 1)) (xs (i + 2)) (xs (i + 3))).1 24 0 = 0 := oPostM_24
    have hval : nI (S.2 0 1) = nI (T.2 0 1) := by rw [hEq.c (j := 1)]
    refine lv_istore (lv' := [(5, .int (cPost S (xs (i + 1)) (xs (i + 2)) (xs (i + 3)))), (4, .int (nI i)), (0, .ref b), (1, .ref (ad1 0 0)), (2, .ref (ad1 16 0)), (3, .ref (ad1 18 0))]) hx hb dL_law_415 hl (by decide) rfl (fun ls hl => ?_)
    refine lv_aload_n hx hb dL_law_417 rfl (lv_at hl 4 rfl) ?_
    refine lv_aload_n hx hb dL_law_418 rfl (lv_at hl 2 rfl) ?_
    refine lv_iload hx hb dL_law_419 (lv_at hl 1 rfl) ?_
    refine lv_iconst (v := 1) hx hb dL_law_421 (by decide) ?_
    refine lv_iadd hx hb dL_law_422 ?_
    refine lv_topi (fun x_422 e_422 => ?_)
    obtain rfl : x_422 = nI (i + 1) := e_422.trans (nI_1 _)
    refine va_sld hx hb hX hbl (Nat.not_le.mpr hbl) X.2 (vp_in_nI (show i + 1 < L by omega) (by omega)) dL_law_423 ?_
    refine lv_topi (fun x_423 e_423 => ?_)
    obtain rfl : x_423 = xs (i + 1) := e_423.trans (by rw [nI_clamp (by omega)])
    refine lv_aload_n hx hb dL_law_424 rfl (lv_at hl 2 rfl) ?_
    refine lv_iload hx hb dL_law_425 (lv_at hl 1 rfl) ?_
    refine lv_iconst (v := 2) hx hb dL_law_427 (by decide) ?_
    refine lv_iadd hx hb dL_law_428 ?_
    refine lv_topi (fun x_428 e_428 => ?_)
    obtain rfl : x_428 = nI (i + 2) := e_428.trans (nI_add _ 2)
    refine va_sld hx hb hX hbl (Nat.not_le.mpr hbl) X.2 (vp_in_nI (show i + 2 < L by omega) (by omega)) dL_law_429 ?_
    refine lv_topi (fun x_429 e_429 => ?_)
    obtain rfl : x_429 = xs (i + 2) := e_429.trans (by rw [nI_clamp (by omega)])
    refine lv_aload_n hx hb dL_law_430 rfl (lv_at hl 2 rfl) ?_
    refine lv_iload hx hb dL_law_431 (lv_at hl 1 rfl) ?_
    refine lv_iconst (v := 3) hx hb dL_law_433 (by decide) ?_
    refine lv_iadd hx hb dL_law_434 ?_
    refine lv_topi (fun x_434 e_434 => ?_)
    obtain rfl : x_434 = nI (i + 3) := e_434.trans (nI_add _ 3)
    refine va_sld hx hb hX hbl (Nat.not_le.mpr hbl) X.2 (vp_in_nI (show i + 3 < L by omega) (by omega)) dL_law_435 ?_
    refine lv_topi (fun x_435 e_435 => ?_)
    obtain rfl : x_435 = xs (i + 3) := e_435.trans (by rw [nI_clamp (by omega)])
    refine k_Ri X (k_runV (As := [.int (xs (i + 1)), .int (xs (i + 2)), .int (xs (i + 3))]) (rest := []) Z X (c_X8_post l s G (gM S (xs (i + 1)) (xs (i + 2)) (xs (i + 3)) cap) T ((nI (S.2 0 1)).toInt64) ad1 (xs (i + 1)) (xs (i + 2)) (xs (i + 3)) (okN_e hEq hS) ) (k_cwV 3 Z.1.2.2.2.2 (inU_16 _ (List.mem_of_getElem? (i := 8) rfl)) (inU_16 _ (List.mem_of_getElem? (i := 9) rfl)) (inU_16 _ (List.mem_of_getElem? (i := 10) rfl)) (inU_1 _ (List.mem_of_getElem? (i := 5) rfl)) (inU_16 _ (List.mem_of_getElem? (i := 11) rfl)) rfl rfl (by decide +kernel) ⟨Nat.le_of_ble_eq_true rfl, Nat.le_of_ble_eq_true rfl⟩) (k_recv Z X ct_16 rfl) rfl hl.1 rfl (Nat.le_of_ble_eq_true rfl) dL_law_436 ⟨r1, r2⟩) (fun r_436 ad2 ct2 H locs hp X => ?_)
    obtain ⟨hv, ha_, hb_⟩ := hp
    rw [if_pos hCT] at hb_
    rw [← ha_, hb_] at X
    have hv2 : r_436 = nI (S.2 0 1) := (hv hCT).trans hval.symm
    subst hv2
    refine lv_istore (lv' := [(6, .int (nI (S.2 0 1))), (5, .int (cPost S (xs (i + 1)) (xs (i + 2)) (xs (i + 3)))), (4, .int (nI i)), (0, .ref b), (1, .ref (ad1 0 0)), (2, .ref (ad1 16 0)), (3, .ref (ad1 18 0))]) hx hb dL_law_439 hl (by decide) rfl (fun ls hl => ?_)
    refine lv_aload_n hx hb dL_law_441 rfl (lv_at hl 5 rfl) ?_
    refine k_Ri X (k_runV (As := []) (rest := []) Z X (c_X8_thrown l s G (gM S (xs (i + 1)) (xs (i + 2)) (xs (i + 3)) cap) (oPostM (sI T 24 0 0) (xs (i + 1)) (xs (i + 2)) (xs (i + 3))) ((nI (S.2 0 1)).toInt64) ad1) (k_cwV 0 Z.1.2.2.2.2 (inU_9 _ (List.mem_of_getElem? (i := 7) rfl)) (inU_9 _ (List.mem_of_getElem? (i := 8) rfl)) (inU_9 _ (List.mem_of_getElem? (i := 9) rfl)) (inU_1 _ (List.mem_of_getElem? (i := 5) rfl)) (inU_9 _ (List.mem_of_getElem? (i := 10) rfl)) rfl rfl (by decide +kernel) ⟨Nat.le_of_ble_eq_true rfl, Nat.le_of_ble_eq_true rfl⟩) (k_recv Z X ct_16 rfl) rfl hl.1 rfl (Nat.le_of_ble_eq_true rfl) dL_law_442 ⟨r1, r2⟩) (fun r_442 ad2 ct2 H locs hp X => ?_)
    obtain ⟨rfl, ha_, hb_⟩ := hp
    rw [← ha_, hb_] at X
    refine lv_iload hx hb dL_law_445 (lv_at hl 1 rfl) ?_
    refine lv_icmp_eq (tgt := 452) hx hb dL_law_447 (by decide) (fun c_447 => ?_) (fun c_447 => ?_)
    · refine lv_iload hx hb dL_law_452 (lv_at hl 1 rfl) ?_
      refine lv_if_ne (tgt := 469) hx hb dL_law_454 (by decide) (fun c_454 => ?_) (fun c_454 => ?_)
      · exact absurd hC c_454
      · refine lv_aload_n hx hb dL_law_457 rfl (lv_at hl 6 rfl) ?_
        refine lv_iconst (v := 0) hx hb dL_law_458 (by decide) ?_
        refine k_lld (ad := ad1) (k := 18) (i := 0) Z X ct_18 (by unfold vp_in; decide) dL_law_459 ?_
        refine lv_iload hx hb dL_law_460 (lv_at hl 0 rfl) ?_
        refine lv_i2l (v := (nI (S.2 0 1)).toInt64) hx hb dL_law_462 rfl ?_
        refine W.lcmp hx hb dL_law_463 ?_
        refine lv_topi (fun x_463 e_463 => ?_)
        obtain rfl : x_463 = 0 := e_463.trans (lg_self _)
        refine lv_if_eq (tgt := 469) hx hb dL_law_464 (by decide) (fun c_464 => ?_) (fun c_464 => ?_)
        · refine lv_goto (tgt := 1522) hx hb dL_law_469 (by decide) ?_
          exact K _ _ _ _ _ _ _ hT1 X (lv_sub hl [2, 3, 4, 5, 6] rfl)
        · exact absurd c_464 (by decide)
    · exact absurd (h24.trans hC.symm) c_447
  · have hCe : cPost S (xs (i + 1)) (xs (i + 2)) (xs (i + 3)) = cPost T (xs (i + 1)) (xs (i + 2)) (xs (i + 3)) := cPost_e hEq (xs (i + 1)) (xs (i + 2)) (xs (i + 3))
    have hCT : ¬ cPost T (xs (i + 1)) (xs (i + 2)) (xs (i + 3)) = 0 := fun z => hC (hCe.trans z)
    refine lv_istore (lv' := [(5, .int (cPost S (xs (i + 1)) (xs (i + 2)) (xs (i + 3)))), (4, .int (nI i)), (0, .ref b), (1, .ref (ad1 0 0)), (2, .ref (ad1 16 0)), (3, .ref (ad1 18 0))]) hx hb dL_law_415 hl (by decide) rfl (fun ls hl => ?_)
    refine lv_aload_n hx hb dL_law_417 rfl (lv_at hl 4 rfl) ?_
    refine lv_aload_n hx hb dL_law_418 rfl (lv_at hl 2 rfl) ?_
    refine lv_iload hx hb dL_law_419 (lv_at hl 1 rfl) ?_
    refine lv_iconst (v := 1) hx hb dL_law_421 (by decide) ?_
    refine lv_iadd hx hb dL_law_422 ?_
    refine lv_topi (fun x_422 e_422 => ?_)
    obtain rfl : x_422 = nI (i + 1) := e_422.trans (nI_1 _)
    refine va_sld hx hb hX hbl (Nat.not_le.mpr hbl) X.2 (vp_in_nI (show i + 1 < L by omega) (by omega)) dL_law_423 ?_
    refine lv_topi (fun x_423 e_423 => ?_)
    obtain rfl : x_423 = xs (i + 1) := e_423.trans (by rw [nI_clamp (by omega)])
    refine lv_aload_n hx hb dL_law_424 rfl (lv_at hl 2 rfl) ?_
    refine lv_iload hx hb dL_law_425 (lv_at hl 1 rfl) ?_
    refine lv_iconst (v := 2) hx hb dL_law_427 (by decide) ?_
    refine lv_iadd hx hb dL_law_428 ?_
    refine lv_topi (fun x_428 e_428 => ?_)
    obtain rfl : x_428 = nI (i + 2) := e_428.trans (nI_add _ 2)
    refine va_sld hx hb hX hbl (Nat.not_le.mpr hbl) X.2 (vp_in_nI (show i + 2 < L by omega) (by omega)) dL_law_429 ?_
    refine lv_topi (fun x_429 e_429 => ?_)
    obtain rfl : x_429 = xs (i + 2) := e_429.trans (by rw [nI_clamp (by omega)])
    refine lv_aload_n hx hb dL_law_430 rfl (lv_at hl 2 rfl) ?_
    refine lv_iload hx hb dL_law_431 (lv_at hl 1 rfl) ?_
    refine lv_iconst (v := 3) hx hb dL_law_433 (by decide) ?_
    refine lv_iadd hx hb dL_law_434 ?_
    refine lv_topi (fun x_434 e_434 => ?_)
    obtain rfl : x_434 = nI (i + 3) := e_434.trans (nI_add _ 3)
    refine va_sld hx hb hX hbl (Nat.not_le.mpr hbl) X.2 (vp_in_nI (show i + 3 < L by omega) (by omega)) dL_law_435 ?_
    refine lv_topi (fun x_435 e_435 => ?_)
    obtain rfl : x_435 = xs (i + 3) := e_435.trans (by rw [nI_clamp (by omega)])
    refine k_Ri X (k_runV (As := [.int (xs (i + 1)), .int (xs (i + 2)), .int (xs (i + 3))]) (rest := []) Z X (c_X8_post l s G S T o ad1 (xs (i + 1)) (xs (i + 2)) (xs (i + 3)) (okN_e hEq hS) ) (k_cwV 3 Z.1.2.2.2.2 (inU_16 _ (List.mem_of_getElem? (i := 8) rfl)) (inU_16 _ (List.mem_of_getElem? (i := 9) rfl)) (inU_16 _ (List.mem_of_getElem? (i := 10) rfl)) (inU_1 _ (List.mem_of_getElem? (i := 5) rfl)) (inU_16 _ (List.mem_of_getElem? (i := 11) rfl)) rfl rfl (by decide +kernel) ⟨Nat.le_of_ble_eq_true rfl, Nat.le_of_ble_eq_true rfl⟩) (k_recv Z X ct_16 rfl) rfl hl.1 rfl (Nat.le_of_ble_eq_true rfl) dL_law_436 ⟨r1, r2⟩) (fun r_436 ad2 ct2 H locs hp X => ?_)
    obtain ⟨hv, ha_, hb_⟩ := hp
    rw [if_neg hCT] at hb_
    rw [← ha_, hb_] at X
    refine lv_istore (lv' := [(6, .int r_436), (5, .int (cPost S (xs (i + 1)) (xs (i + 2)) (xs (i + 3)))), (4, .int (nI i)), (0, .ref b), (1, .ref (ad1 0 0)), (2, .ref (ad1 16 0)), (3, .ref (ad1 18 0))]) hx hb dL_law_439 hl (by decide) rfl (fun ls hl => ?_)
    refine lv_aload_n hx hb dL_law_441 rfl (lv_at hl 5 rfl) ?_
    refine k_Ri X (k_runV (As := []) (rest := []) Z X (c_X8_thrown l s G S (sI T 24 0 (cPost T (xs (i + 1)) (xs (i + 2)) (xs (i + 3)))) o ad1) (k_cwV 0 Z.1.2.2.2.2 (inU_9 _ (List.mem_of_getElem? (i := 7) rfl)) (inU_9 _ (List.mem_of_getElem? (i := 8) rfl)) (inU_9 _ (List.mem_of_getElem? (i := 9) rfl)) (inU_1 _ (List.mem_of_getElem? (i := 5) rfl)) (inU_9 _ (List.mem_of_getElem? (i := 10) rfl)) rfl rfl (by decide +kernel) ⟨Nat.le_of_ble_eq_true rfl, Nat.le_of_ble_eq_true rfl⟩) (k_recv Z X ct_16 rfl) rfl hl.1 rfl (Nat.le_of_ble_eq_true rfl) dL_law_442 ⟨r1, r2⟩) (fun r_442 ad2 ct2 H locs hp X => ?_)
    obtain ⟨rfl, ha_, hb_⟩ := hp
    rw [← ha_, hb_] at X
    refine lv_iload hx hb dL_law_445 (lv_at hl 1 rfl) ?_
    refine lv_icmp_eq (tgt := 452) hx hb dL_law_447 (by decide) (fun c_447 => ?_) (fun c_447 => ?_)
    · refine lv_iload hx hb dL_law_452 (lv_at hl 1 rfl) ?_
      refine lv_if_ne (tgt := 469) hx hb dL_law_454 (by decide) (fun c_454 => ?_) (fun c_454 => ?_)
      · refine lv_goto (tgt := 1522) hx hb dL_law_469 (by decide) ?_
        exact K _ _ _ _ _ _ _ ((hTie.t24 _).up (Nat.le_succ n)) X (lv_sub hl [2, 3, 4, 5, 6] rfl)
      · exact absurd c_454 hC
    · exact absurd (sI_s.trans hCe.symm) c_447
end ARM
