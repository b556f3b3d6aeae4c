/-! THE LAW'S ARMS, further -/
section ARM
variable {p : Program} {l : Launch} {e : Env} {s : State} {m : MethodId} {below : List Frame} {meth : Method} {c : Code} {b L i n cells slots : Nat} {xs : Nat → Int32} {G : kG} {S T : kSt} {o : Int64} {ad : kAd} {H : Heap} {locs : List Loc} {ls : Array Slot} {Q : State → Prop}
set_option maxHeartbeats 1000000 in
set_option maxRecDepth 100000 in
theorem a_spendOf (hE : kE l s G) (Z : kZ p m c code 7 s #[Value.ref b] wsL_law RL s G) (hX : va_X b L xs s s.heap) (hbl : b < s.heap.size) (hTie : Tie n S T) (hn : n < 512) (X : kX s G s H locs ad (cto G S T o ad)) (hl : lv_has ls 7 (lwLv b i ad)) (hi : i + 5 ≤ L) (hL9 : L ≤ 2560) (r1 : cells + 20 ≤ room_1.cells) (r2 : slots + 400 ≤ room_1.slots) (K : lwK p l e s m below meth c G b i (n + 1) (cells + 20) (slots + 400) Q) : W p l e room_1 s m #[Value.ref b] below meth c H locs cells slots Q (F0 m 1206 ls []) := by
  have hx := Z.1.1
  have hb := Z.1.2.1
  have hl : lv_has ls 7 [(4, .int (nI i)), (0, .ref b), (1, .ref (ad 0 0)), (2, .ref (ad 16 0)), (3, .ref (ad 18 0))] := hl
  obtain ⟨⟨hEq, hKd, hS, hLk, hM, hG9, hc9, hV, hB, hM22⟩, hSe⟩ := id hTie
  refine lv_aload_n hx hb dL_law_1206 rfl (lv_at hl 2 rfl) ?_
  refine lv_aload_n hx hb dL_law_1207 rfl (lv_at hl 1 rfl) ?_
  refine lv_iload hx hb dL_law_1208 (lv_at hl 0 rfl) ?_
  refine lv_iconst (v := 1) hx hb dL_law_1210 (by decide) ?_
  refine lv_iadd hx hb dL_law_1211 ?_
  refine lv_topi (fun x_1211 e_1211 => ?_)
  obtain rfl : x_1211 = nI (i + 1) := e_1211.trans (nI_1 _)
  refine va_sld hx hb hX hbl (Nat.not_le.mpr hbl) X.2 (vp_in_nI (show i + 1 < L by omega) (by omega)) dL_law_1212 ?_
  refine lv_topi (fun x_1212 e_1212 => ?_)
  obtain rfl : x_1212 = xs (i + 1) := e_1212.trans (by rw [nI_clamp (by omega)])
  refine lv_aload_n hx hb dL_law_1213 rfl (lv_at hl 1 rfl) ?_
  refine lv_iload hx hb dL_law_1214 (lv_at hl 0 rfl) ?_
  refine lv_iconst (v := 2) hx hb dL_law_1216 (by decide) ?_
  refine lv_iadd hx hb dL_law_1217 ?_
  refine lv_topi (fun x_1217 e_1217 => ?_)
  obtain rfl : x_1217 = nI (i + 2) := e_1217.trans (nI_add _ 2)
  refine va_sld hx hb hX hbl (Nat.not_le.mpr hbl) X.2 (vp_in_nI (show i + 2 < L by omega) (by omega)) dL_law_1218 ?_
  refine lv_topi (fun x_1218 e_1218 => ?_)
  obtain rfl : x_1218 = xs (i + 2) := e_1218.trans (by rw [nI_clamp (by omega)])
  refine lv_aload_n hx hb dL_law_1219 rfl (lv_at hl 4 rfl) ?_
  refine k_xRi X (k_xrunSW (As := [.ref (ad 0 0), .int (xs (i + 1)), .int (xs (i + 2)), .ref (ad 18 0)]) (rest := []) Z X (c_L_spendOf l s G S T o ad (xs (i + 1)) (xs (i + 2)) hE hS hLk) (k_cwSW 4 Z.1.2.2.2.2 (inU_33 _ (List.mem_of_getElem? (i := 20) rfl)) (inU_33 _ (List.mem_of_getElem? (i := 21) rfl)) (inU_7 _ (List.mem_of_getElem? (i := 7) rfl)) (inU_33 _ (List.mem_of_getElem? (i := 22) rfl)) rfl rfl (by decide +kernel) ⟨(Nat.le_of_ble_eq_true rfl), (Nat.le_of_ble_eq_true rfl)⟩) rfl hl.1 rfl (Nat.le_of_ble_eq_true rfl) dL_law_1220 ⟨r1, r2⟩) (fun _ _ _ _ _ _ _ hp => hp.elim) (fun r_1220 ad1 ct1 H locs hp X => ?_)
  obtain ⟨rfl, hAK, hq⟩ := hp
  rw [← hAK.1, ← hAK.2.1, ← hAK.2.2] at hl
  rcases hq with ⟨hC, S1, hR1, rfl⟩ | ⟨hC, rfl⟩
  · have hCe : cSpOf S (xs (i + 1)) (xs (i + 2)) = cSpOf T (xs (i + 1)) (xs (i + 2)) := cSpOf_e hEq (xs (i + 1)) (xs (i + 2))
    have hR1 : S1 = S := hR1
    rw [hR1] at X
    have hCT : cSpOf T (xs (i + 1)) (xs (i + 2)) = 0 := hCe.symm.trans hC
    have hT1 := (hTie.t24 0).up (Nat.le_succ n)
    have h24 : (sI T 24 0 0).1 24 0 = 0 := sI_s
    have hval := rSpOf_e hEq (xs (i + 1)) (xs (i + 2))
    refine lv_istore (lv' := [(5, .int (cSpOf S (xs (i + 1)) (xs (i + 2)))), (4, .int (nI i)), (0, .ref b), (1, .ref (ad1 0 0)), (2, .ref (ad1 16 0)), (3, .ref (ad1 18 0))]) hx hb dL_law_1223 hl (by decide) rfl (fun ls hl => ?_)
    refine lv_aload_n hx hb dL_law_1225 rfl (lv_at hl 4 rfl) ?_
    refine lv_aload_n hx hb dL_law_1226 rfl (lv_at hl 2 rfl) ?_
    refine lv_iload hx hb dL_law_1227 (lv_at hl 1 rfl) ?_
    refine lv_iconst (v := 1) hx hb dL_law_1229 (by decide) ?_
    refine lv_iadd hx hb dL_law_1230 ?_
    refine lv_topi (fun x_1230 e_1230 => ?_)
    obtain rfl : x_1230 = nI (i + 1) := e_1230.trans (nI_1 _)
    refine va_sld hx hb hX hbl (Nat.not_le.mpr hbl) X.2 (vp_in_nI (show i + 1 < L by omega) (by omega)) dL_law_1231 ?_
    refine lv_topi (fun x_1231 e_1231 => ?_)
    obtain rfl : x_1231 = xs (i + 1) := e_1231.trans (by rw [nI_clamp (by omega)])
    refine lv_aload_n hx hb dL_law_1232 rfl (lv_at hl 2 rfl) ?_
    refine lv_iload hx hb dL_law_1233 (lv_at hl 1 rfl) ?_
    refine lv_iconst (v := 2) hx hb dL_law_1235 (by decide) ?_
    refine lv_iadd hx hb dL_law_1236 ?_
    refine lv_topi (fun x_1236 e_1236 => ?_)
    obtain rfl : x_1236 = nI (i + 2) := e_1236.trans (nI_add _ 2)
    refine va_sld hx hb hX hbl (Nat.not_le.mpr hbl) X.2 (vp_in_nI (show i + 2 < L by omega) (by omega)) dL_law_1237 ?_
    refine lv_topi (fun x_1237 e_1237 => ?_)
    obtain rfl : x_1237 = xs (i + 2) := e_1237.trans (by rw [nI_clamp (by omega)])
    refine k_Ri X (k_runV (As := [.int (xs (i + 1)), .int (xs (i + 2))]) (rest := []) Z X (c_X8_spendOf l s G S T ((rSpOf S (xs (i + 1)) (xs (i + 2))).toInt64) ad1 (xs (i + 1)) (xs (i + 2)) (okN_e hEq hS) (fun j _ => by rw [← hEq.i (f := 12)]; exact hV.1 j)) (k_cwV 2 Z.1.2.2.2.2 (inU_34 _ (List.mem_of_getElem? (i := 7) rfl)) (inU_34 _ (List.mem_of_getElem? (i := 8) rfl)) (inU_34 _ (List.mem_of_getElem? (i := 9) rfl)) (inU_1 _ (List.mem_of_getElem? (i := 5) rfl)) (inU_34 _ (List.mem_of_getElem? (i := 10) rfl)) rfl rfl (by decide +kernel) ⟨Nat.le_of_ble_eq_true rfl, Nat.le_of_ble_eq_true rfl⟩) (k_recv Z X ct_16 rfl) rfl hl.1 rfl (Nat.le_of_ble_eq_true rfl) dL_law_1238 ⟨r1, r2⟩) (fun r_1238 ad2 ct2 H locs hp X => ?_)
    obtain ⟨hv, ha_, hb_⟩ := hp
    rw [if_pos hCT] at hb_
    rw [← ha_, hb_] at X
    have hv2 : r_1238 = rSpOf S (xs (i + 1)) (xs (i + 2)) := (hv hCT).trans hval.symm
    subst hv2
    refine lv_istore (lv' := [(6, .int (rSpOf S (xs (i + 1)) (xs (i + 2)))), (5, .int (cSpOf S (xs (i + 1)) (xs (i + 2)))), (4, .int (nI i)), (0, .ref b), (1, .ref (ad1 0 0)), (2, .ref (ad1 16 0)), (3, .ref (ad1 18 0))]) hx hb dL_law_1241 hl (by decide) rfl (fun ls hl => ?_)
    refine lv_aload_n hx hb dL_law_1243 rfl (lv_at hl 5 rfl) ?_
    refine k_Ri X (k_runV (As := []) (rest := []) Z X (c_X8_thrown l s G S (sI T 24 0 0) ((rSpOf S (xs (i + 1)) (xs (i + 2))).toInt64) ad1) (k_cwV 0 Z.1.2.2.2.2 (inU_9 _ (List.mem_of_getElem? (i := 7) rfl)) (inU_9 _ (List.mem_of_getElem? (i := 8) rfl)) (inU_9 _ (List.mem_of_getElem? (i := 9) rfl)) (inU_1 _ (List.mem_of_getElem? (i := 5) rfl)) (inU_9 _ (List.mem_of_getElem? (i := 10) rfl)) rfl rfl (by decide +kernel) ⟨Nat.le_of_ble_eq_true rfl, Nat.le_of_ble_eq_true rfl⟩) (k_recv Z X ct_16 rfl) rfl hl.1 rfl (Nat.le_of_ble_eq_true rfl) dL_law_1244 ⟨r1, r2⟩) (fun r_1244 ad2 ct2 H locs hp X => ?_)
    obtain ⟨rfl, ha_, hb_⟩ := hp
    rw [← ha_, hb_] at X
    refine lv_iload hx hb dL_law_1247 (lv_at hl 1 rfl) ?_
    refine lv_icmp_eq (tgt := 1254) hx hb dL_law_1249 (by decide) (fun c_1249 => ?_) (fun c_1249 => ?_)
    · refine lv_iload hx hb dL_law_1254 (lv_at hl 1 rfl) ?_
      refine lv_if_ne (tgt := 1271) hx hb dL_law_1256 (by decide) (fun c_1256 => ?_) (fun c_1256 => ?_)
      · exact absurd hC c_1256
      · refine lv_aload_n hx hb dL_law_1259 rfl (lv_at hl 6 rfl) ?_
        refine lv_iconst (v := 0) hx hb dL_law_1260 (by decide) ?_
        refine k_lld (ad := ad1) (k := 18) (i := 0) Z X ct_18 (by unfold vp_in; decide) dL_law_1261 ?_
        refine lv_iload hx hb dL_law_1262 (lv_at hl 0 rfl) ?_
        refine lv_i2l (v := (rSpOf S (xs (i + 1)) (xs (i + 2))).toInt64) hx hb dL_law_1264 rfl ?_
        refine W.lcmp hx hb dL_law_1265 ?_
        refine lv_topi (fun x_1265 e_1265 => ?_)
        obtain rfl : x_1265 = 0 := e_1265.trans (lg_self _)
        refine lv_if_eq (tgt := 1271) hx hb dL_law_1266 (by decide) (fun c_1266 => ?_) (fun c_1266 => ?_)
        · refine lv_goto (tgt := 1522) hx hb dL_law_1271 (by decide) ?_
          exact K _ _ _ _ _ _ _ hT1 X (lv_sub hl [2, 3, 4, 5, 6] rfl)
        · exact absurd c_1266 (by decide)
    · exact absurd (h24.trans hC.symm) c_1249
  · have hCe : cSpOf S (xs (i + 1)) (xs (i + 2)) = cSpOf T (xs (i + 1)) (xs (i + 2)) := cSpOf_e hEq (xs (i + 1)) (xs (i + 2))
    have hCT : ¬ cSpOf T (xs (i + 1)) (xs (i + 2)) = 0 := fun z => hC (hCe.trans z)
    refine lv_istore (lv' := [(5, .int (cSpOf S (xs (i + 1)) (xs (i + 2)))), (4, .int (nI i)), (0, .ref b), (1, .ref (ad1 0 0)), (2, .ref (ad1 16 0)), (3, .ref (ad1 18 0))]) hx hb dL_law_1223 hl (by decide) rfl (fun ls hl => ?_)
    refine lv_aload_n hx hb dL_law_1225 rfl (lv_at hl 4 rfl) ?_
    refine lv_aload_n hx hb dL_law_1226 rfl (lv_at hl 2 rfl) ?_
    refine lv_iload hx hb dL_law_1227 (lv_at hl 1 rfl) ?_
    refine lv_iconst (v := 1) hx hb dL_law_1229 (by decide) ?_
    refine lv_iadd hx hb dL_law_1230 ?_
    refine lv_topi (fun x_1230 e_1230 => ?_)
    obtain rfl : x_1230 = nI (i + 1) := e_1230.trans (nI_1 _)
    refine va_sld hx hb hX hbl (Nat.not_le.mpr hbl) X.2 (vp_in_nI (show i + 1 < L by omega) (by omega)) dL_law_1231 ?_
    refine lv_topi (fun x_1231 e_1231 => ?_)
    obtain rfl : x_1231 = xs (i + 1) := e_1231.trans (by rw [nI_clamp (by omega)])
    refine lv_aload_n hx hb dL_law_1232 rfl (lv_at hl 2 rfl) ?_
    refine lv_iload hx hb dL_law_1233 (lv_at hl 1 rfl) ?_
    refine lv_iconst (v := 2) hx hb dL_law_1235 (by decide) ?_
    refine lv_iadd hx hb dL_law_1236 ?_
    refine lv_topi (fun x_1236 e_1236 => ?_)
    obtain rfl : x_1236 = nI (i + 2) := e_1236.trans (nI_add _ 2)
    refine va_sld hx hb hX hbl (Nat.not_le.mpr hbl) X.2 (vp_in_nI (show i + 2 < L by omega) (by omega)) dL_law_1237 ?_
    refine lv_topi (fun x_1237 e_1237 => ?_)
    obtain rfl : x_1237 = xs (i + 2) := e_1237.trans (by rw [nI_clamp (by omega)])
    refine k_Ri X (k_runV (As := [.int (xs (i + 1)), .int (xs (i + 2))]) (rest := []) Z X (c_X8_spendOf l s G S T o ad1 (xs (i + 1)) (xs (i + 2)) (okN_e hEq hS) (fun j _ => by rw [← hEq.i (f := 12)]; exact hV.1 j)) (k_cwV 2 Z.1.2.2.2.2 (inU_34 _ (List.mem_of_getElem? (i := 7) rfl)) (inU_34 _ (List.mem_of_getElem? (i := 8) rfl)) (inU_34 _ (List.mem_of_getElem? (i := 9) rfl)) (inU_1 _ (List.mem_of_getElem? (i := 5) rfl)) (inU_34 _ (List.mem_of_getElem? (i := 10) rfl)) rfl rfl (by decide +kernel) ⟨Nat.le_of_ble_eq_true rfl, Nat.le_of_ble_eq_true rfl⟩) (k_recv Z X ct_16 rfl) rfl hl.1 rfl (Nat.le_of_ble_eq_true rfl) dL_law_1238 ⟨r1, r2⟩) (fun r_1238 ad2 ct2 H locs hp X => ?_)
    obtain ⟨hv, ha_, hb_⟩ := hp
    rw [if_neg hCT] at hb_
    rw [← ha_, hb_] at X
    refine lv_istore (lv' := [(6, .int r_1238), (5, .int (cSpOf S (xs (i + 1)) (xs (i + 2)))), (4, .int (nI i)), (0, .ref b), (1, .ref (ad1 0 0)), (2, .ref (ad1 16 0)), (3, .ref (ad1 18 0))]) hx hb dL_law_1241 hl (by decide) rfl (fun ls hl => ?_)
    refine lv_aload_n hx hb dL_law_1243 rfl (lv_at hl 5 rfl) ?_
    refine k_Ri X (k_runV (As := []) (rest := []) Z X (c_X8_thrown l s G S (sI T 24 0 (cSpOf T (xs (i + 1)) (xs (i + 2)))) o ad1) (k_cwV 0 Z.1.2.2.2.2 (inU_9 _ (List.mem_of_getElem? (i := 7) rfl)) (inU_9 _ (List.mem_of_getElem? (i := 8) rfl)) (inU_9 _ (List.mem_of_getElem? (i := 9) rfl)) (inU_1 _ (List.mem_of_getElem? (i := 5) rfl)) (inU_9 _ (List.mem_of_getElem? (i := 10) rfl)) rfl rfl (by decide +kernel) ⟨Nat.le_of_ble_eq_true rfl, Nat.le_of_ble_eq_true rfl⟩) (k_recv Z X ct_16 rfl) rfl hl.1 rfl (Nat.le_of_ble_eq_true rfl) dL_law_1244 ⟨r1, r2⟩) (fun r_1244 ad2 ct2 H locs hp X => ?_)
    obtain ⟨rfl, ha_, hb_⟩ := hp
    rw [← ha_, hb_] at X
    refine lv_iload hx hb dL_law_1247 (lv_at hl 1 rfl) ?_
    refine lv_icmp_eq (tgt := 1254) hx hb dL_law_1249 (by decide) (fun c_1249 => ?_) (fun c_1249 => ?_)
    · refine lv_iload hx hb dL_law_1254 (lv_at hl 1 rfl) ?_
      refine lv_if_ne (tgt := 1271) hx hb dL_law_1256 (by decide) (fun c_1256 => ?_) (fun c_1256 => ?_)
      · refine lv_goto (tgt := 1522) hx hb dL_law_1271 (by decide) ?_
        exact K _ _ _ _ _ _ _ ((hTie.t24 _).up (Nat.le_succ n)) X (lv_sub hl [2, 3, 4, 5, 6] rfl)
      · exact absurd c_1256 hC
    · exact absurd (sI_s.trans hCe.symm) c_1249
set_option maxHeartbeats 1000000 in
set_option maxRecDepth 100000 in
theorem a_left (hE : kE l s G) (Z : kZ p m c code 7 s #[Value.ref b] wsL_law RL s G) (hX : va_X b L xs s s.heap) (hbl : b < s.heap.size) (hTie : Tie n S T) (hn : n < 512) (X : kX s G s H locs ad (cto G S T o ad)) (hl : lv_has ls 7 (lwLv b i ad)) (hi : i + 5 ≤ L) (hL9 : L ≤ 2560) (r1 : cells + 20 ≤ room_1.cells) (r2 : slots + 400 ≤ room_1.slots) (K : lwK p l e s m below meth c G b i (n + 1) (cells + 20) (slots + 400) Q) : W p l e room_1 s m #[Value.ref b] below meth c H locs cells slots Q (F0 m 1274 ls []) := by
  have hx := Z.1.1
  have hb := Z.1.2.1
  have hl : lv_has ls 7 [(4, .int (nI i)), (0, .ref b), (1, .ref (ad 0 0)), (2, .ref (ad 16 0)), (3, .ref (ad 18 0))] := hl
  obtain ⟨⟨hEq, hKd, hS, hLk, hM, hG9, hc9, hV, hB, hM22⟩, hSe⟩ := id hTie
  refine lv_aload_n hx hb dL_law_1274 rfl (lv_at hl 2 rfl) ?_
  refine lv_aload_n hx hb dL_law_1275 rfl (lv_at hl 1 rfl) ?_
  refine lv_iload hx hb dL_law_1276 (lv_at hl 0 rfl) ?_
  refine lv_iconst (v := 1) hx hb dL_law_1278 (by decide) ?_
  refine lv_iadd hx hb dL_law_1279 ?_
  refine lv_topi (fun x_1279 e_1279 => ?_)
  obtain rfl : x_1279 = nI (i + 1) := e_1279.trans (nI_1 _)
  refine va_sld hx hb hX hbl (Nat.not_le.mpr hbl) X.2 (vp_in_nI (show i + 1 < L by omega) (by omega)) dL_law_1280 ?_
  refine lv_topi (fun x_1280 e_1280 => ?_)
  obtain rfl : x_1280 = xs (i + 1) := e_1280.trans (by rw [nI_clamp (by omega)])
  refine lv_aload_n hx hb dL_law_1281 rfl (lv_at hl 4 rfl) ?_
  refine k_xRi X (k_xrunSW (As := [.ref (ad 0 0), .int (xs (i + 1)), .ref (ad 18 0)]) (rest := []) Z X (c_L_left l s G S T o ad (xs (i + 1)) hE hS hLk) (k_cwSW 3 Z.1.2.2.2.2 (inU_34 _ (List.mem_of_getElem? (i := 11) rfl)) (inU_34 _ (List.mem_of_getElem? (i := 12) rfl)) (inU_7 _ (List.mem_of_getElem? (i := 7) rfl)) (inU_34 _ (List.mem_of_getElem? (i := 13) rfl)) rfl rfl (by decide +kernel) ⟨(Nat.le_of_ble_eq_true rfl), (Nat.le_of_ble_eq_true rfl)⟩) rfl hl.1 rfl (Nat.le_of_ble_eq_true rfl) dL_law_1282 ⟨r1, r2⟩) (fun _ _ _ _ _ _ _ hp => hp.elim) (fun r_1282 ad1 ct1 H locs hp X => ?_)
  obtain ⟨rfl, hAK, hq⟩ := hp
  rw [← hAK.1, ← hAK.2.1, ← hAK.2.2] at hl
  rcases hq with ⟨hC, S1, hR1, rfl⟩ | ⟨hC, rfl⟩
  · have hCe : cLeft (xs (i + 1)) = cLeft (xs (i + 1)) := rfl
    have hR1 : S1 = S := hR1
    rw [hR1] at X
    have hCT : cLeft (xs (i + 1)) = 0 := hCe.symm.trans hC
    have hT1 := (hTie.t24 0).up (Nat.le_succ n)
    have h24 : (sI T 24 0 0).1 24 0 = 0 := sI_s
    have hval : S.1 3 (cl (xs (i + 1))) = T.1 3 (cl (xs (i + 1))) := by rw [hEq.i (f := 3)]
    refine lv_istore (lv' := [(5, .int (cLeft (xs (i + 1)))), (4, .int (nI i)), (0, .ref b), (1, .ref (ad1 0 0)), (2, .ref (ad1 16 0)), (3, .ref (ad1 18 0))]) hx hb dL_law_1285 hl (by decide) rfl (fun ls hl => ?_)
    refine lv_aload_n hx hb dL_law_1287 rfl (lv_at hl 4 rfl) ?_
    refine lv_aload_n hx hb dL_law_1288 rfl (lv_at hl 2 rfl) ?_
    refine lv_iload hx hb dL_law_1289 (lv_at hl 1 rfl) ?_
    refine lv_iconst (v := 1) hx hb dL_law_1291 (by decide) ?_
    refine lv_iadd hx hb dL_law_1292 ?_
    refine lv_topi (fun x_1292 e_1292 => ?_)
    obtain rfl : x_1292 = nI (i + 1) := e_1292.trans (nI_1 _)
    refine va_sld hx hb hX hbl (Nat.not_le.mpr hbl) X.2 (vp_in_nI (show i + 1 < L by omega) (by omega)) dL_law_1293 ?_
    refine lv_topi (fun x_1293 e_1293 => ?_)
    obtain rfl : x_1293 = xs (i + 1) := e_1293.trans (by rw [nI_clamp (by omega)])
    refine k_Ri X (k_runV (As := [.int (xs (i + 1))]) (rest := []) Z X (c_X8_left l s G S T ((S.1 3 (cl (xs (i + 1)))).toInt64) ad1 (xs (i + 1)) (okN_e hEq hS) ) (k_cwV 1 Z.1.2.2.2.2 (inU_34 _ (List.mem_of_getElem? (i := 18) rfl)) (inU_34 _ (List.mem_of_getElem? (i := 19) rfl)) (inU_34 _ (List.mem_of_getElem? (i := 20) rfl)) (inU_1 _ (List.mem_of_getElem? (i := 5) rfl)) (inU_34 _ (List.mem_of_getElem? (i := 21) rfl)) rfl rfl (by decide +kernel) ⟨Nat.le_of_ble_eq_true rfl, Nat.le_of_ble_eq_true rfl⟩) (k_recv Z X ct_16 rfl) rfl hl.1 rfl (Nat.le_of_ble_eq_true rfl) dL_law_1294 ⟨r1, r2⟩) (fun r_1294 ad2 ct2 H locs hp X => ?_)
    obtain ⟨hv, ha_, hb_⟩ := hp
    rw [if_pos hCT] at hb_
    rw [← ha_, hb_] at X
    have hv2 : r_1294 = S.1 3 (cl (xs (i + 1))) := (hv hCT).trans hval.symm
    subst hv2
    refine lv_istore (lv' := [(6, .int (S.1 3 (cl (xs (i + 1))))), (5, .int (cLeft (xs (i + 1)))), (4, .int (nI i)), (0, .ref b), (1, .ref (ad1 0 0)), (2, .ref (ad1 16 0)), (3, .ref (ad1 18 0))]) hx hb dL_law_1297 hl (by decide) rfl (fun ls hl => ?_)
    refine lv_aload_n hx hb dL_law_1299 rfl (lv_at hl 5 rfl) ?_
    refine k_Ri X (k_runV (As := []) (rest := []) Z X (c_X8_thrown l s G S (sI T 24 0 0) ((S.1 3 (cl (xs (i + 1)))).toInt64) ad1) (k_cwV 0 Z.1.2.2.2.2 (inU_9 _ (List.mem_of_getElem? (i := 7) rfl)) (inU_9 _ (List.mem_of_getElem? (i := 8) rfl)) (inU_9 _ (List.mem_of_getElem? (i := 9) rfl)) (inU_1 _ (List.mem_of_getElem? (i := 5) rfl)) (inU_9 _ (List.mem_of_getElem? (i := 10) rfl)) rfl rfl (by decide +kernel) ⟨Nat.le_of_ble_eq_true rfl, Nat.le_of_ble_eq_true rfl⟩) (k_recv Z X ct_16 rfl) rfl hl.1 rfl (Nat.le_of_ble_eq_true rfl) dL_law_1300 ⟨r1, r2⟩) (fun r_1300 ad2 ct2 H locs hp X => ?_)
    obtain ⟨rfl, ha_, hb_⟩ := hp
    rw [← ha_, hb_] at X
    refine lv_iload hx hb dL_law_1303 (lv_at hl 1 rfl) ?_
    refine lv_icmp_eq (tgt := 1310) hx hb dL_law_1305 (by decide) (fun c_1305 => ?_) (fun c_1305 => ?_)
    · refine lv_iload hx hb dL_law_1310 (lv_at hl 1 rfl) ?_
      refine lv_if_ne (tgt := 1327) hx hb dL_law_1312 (by decide) (fun c_1312 => ?_) (fun c_1312 => ?_)
      · exact absurd hC c_1312
      · refine lv_aload_n hx hb dL_law_1315 rfl (lv_at hl 6 rfl) ?_
        refine lv_iconst (v := 0) hx hb dL_law_1316 (by decide) ?_
        refine k_lld (ad := ad1) (k := 18) (i := 0) Z X ct_18 (by unfold vp_in; decide) dL_law_1317 ?_
        refine lv_iload hx hb dL_law_1318 (lv_at hl 0 rfl) ?_
        refine lv_i2l (v := (S.1 3 (cl (xs (i + 1)))).toInt64) hx hb dL_law_1320 rfl ?_
        refine W.lcmp hx hb dL_law_1321 ?_
        refine lv_topi (fun x_1321 e_1321 => ?_)
        obtain rfl : x_1321 = 0 := e_1321.trans (lg_self _)
        refine lv_if_eq (tgt := 1327) hx hb dL_law_1322 (by decide) (fun c_1322 => ?_) (fun c_1322 => ?_)
        · refine lv_goto (tgt := 1522) hx hb dL_law_1327 (by decide) ?_
          exact K _ _ _ _ _ _ _ hT1 X (lv_sub hl [2, 3, 4, 5, 6] rfl)
        · exact absurd c_1322 (by decide)
    · exact absurd (h24.trans hC.symm) c_1305
  · have hCe : cLeft (xs (i + 1)) = cLeft (xs (i + 1)) := rfl
    have hCT : ¬ cLeft (xs (i + 1)) = 0 := fun z => hC (hCe.trans z)
    refine lv_istore (lv' := [(5, .int (cLeft (xs (i + 1)))), (4, .int (nI i)), (0, .ref b), (1, .ref (ad1 0 0)), (2, .ref (ad1 16 0)), (3, .ref (ad1 18 0))]) hx hb dL_law_1285 hl (by decide) rfl (fun ls hl => ?_)
    refine lv_aload_n hx hb dL_law_1287 rfl (lv_at hl 4 rfl) ?_
    refine lv_aload_n hx hb dL_law_1288 rfl (lv_at hl 2 rfl) ?_
    refine lv_iload hx hb dL_law_1289 (lv_at hl 1 rfl) ?_
    refine lv_iconst (v := 1) hx hb dL_law_1291 (by decide) ?_
    refine lv_iadd hx hb dL_law_1292 ?_
    refine lv_topi (fun x_1292 e_1292 => ?_)
    obtain rfl : x_1292 = nI (i + 1) := e_1292.trans (nI_1 _)
    refine va_sld hx hb hX hbl (Nat.not_le.mpr hbl) X.2 (vp_in_nI (show i + 1 < L by omega) (by omega)) dL_law_1293 ?_
    refine lv_topi (fun x_1293 e_1293 => ?_)
    obtain rfl : x_1293 = xs (i + 1) := e_1293.trans (by rw [nI_clamp (by omega)])
    refine k_Ri X (k_runV (As := [.int (xs (i + 1))]) (rest := []) Z X (c_X8_left l s G S T o ad1 (xs (i + 1)) (okN_e hEq hS) ) (k_cwV 1 Z.1.2.2.2.2 (inU_34 _ (List.mem_of_getElem? (i := 18) rfl)) (inU_34 _ (List.mem_of_getElem? (i := 19) rfl)) (inU_34 _ (List.mem_of_getElem? (i := 20) rfl)) (inU_1 _ (List.mem_of_getElem? (i := 5) rfl)) (inU_34 _ (List.mem_of_getElem? (i := 21) rfl)) rfl rfl (by decide +kernel) ⟨Nat.le_of_ble_eq_true rfl, Nat.le_of_ble_eq_true rfl⟩) (k_recv Z X ct_16 rfl) rfl hl.1 rfl (Nat.le_of_ble_eq_true rfl) dL_law_1294 ⟨r1, r2⟩) (fun r_1294 ad2 ct2 H locs hp X => ?_)
    obtain ⟨hv, ha_, hb_⟩ := hp
    rw [if_neg hCT] at hb_
    rw [← ha_, hb_] at X
    refine lv_istore (lv' := [(6, .int r_1294), (5, .int (cLeft (xs (i + 1)))), (4, .int (nI i)), (0, .ref b), (1, .ref (ad1 0 0)), (2, .ref (ad1 16 0)), (3, .ref (ad1 18 0))]) hx hb dL_law_1297 hl (by decide) rfl (fun ls hl => ?_)
    refine lv_aload_n hx hb dL_law_1299 rfl (lv_at hl 5 rfl) ?_
    refine k_Ri X (k_runV (As := []) (rest := []) Z X (c_X8_thrown l s G S (sI T 24 0 (cLeft (xs (i + 1)))) o ad1) (k_cwV 0 Z.1.2.2.2.2 (inU_9 _ (List.mem_of_getElem? (i := 7) rfl)) (inU_9 _ (List.mem_of_getElem? (i := 8) rfl)) (inU_9 _ (List.mem_of_getElem? (i := 9) rfl)) (inU_1 _ (List.mem_of_getElem? (i := 5) rfl)) (inU_9 _ (List.mem_of_getElem? (i := 10) rfl)) rfl rfl (by decide +kernel) ⟨Nat.le_of_ble_eq_true rfl, Nat.le_of_ble_eq_true rfl⟩) (k_recv Z X ct_16 rfl) rfl hl.1 rfl (Nat.le_of_ble_eq_true rfl) dL_law_1300 ⟨r1, r2⟩) (fun r_1300 ad2 ct2 H locs hp X => ?_)
    obtain ⟨rfl, ha_, hb_⟩ := hp
    rw [← ha_, hb_] at X
    refine lv_iload hx hb dL_law_1303 (lv_at hl 1 rfl) ?_
    refine lv_icmp_eq (tgt := 1310) hx hb dL_law_1305 (by decide) (fun c_1305 => ?_) (fun c_1305 => ?_)
    · refine lv_iload hx hb dL_law_1310 (lv_at hl 1 rfl) ?_
      refine lv_if_ne (tgt := 1327) hx hb dL_law_1312 (by decide) (fun c_1312 => ?_) (fun c_1312 => ?_)
      · refine lv_goto (tgt := 1522) hx hb dL_law_1327 (by decide) ?_
        exact K _ _ _ _ _ _ _ ((hTie.t24 _).up (Nat.le_succ n)) X (lv_sub hl [2, 3, 4, 5, 6] rfl)
      · exact absurd c_1312 hC
    · exact absurd (sI_s.trans hCe.symm) c_1305
set_option maxHeartbeats 1000000 in
set_option maxRecDepth 100000 in
theorem a_next (hE : kE l s G) (Z : kZ p m c code 7 s #[Value.ref b] wsL_law RL s G) (hX : va_X b L xs s s.heap) (hbl : b < s.heap.size) (hTie : Tie n S T) (hn : n < 512) (X : kX s G s H locs ad (cto G S T o ad)) (hl : lv_has ls 7 (lwLv b i ad)) (hi : i + 5 ≤ L) (hL9 : L ≤ 2560) (r1 : cells + 20 ≤ room_1.cells) (r2 : slots + 400 ≤ room_1.slots) (K : lwK p l e s m below meth c G b i (n + 1) (cells + 20) (slots + 400) Q) : W p l e room_1 s m #[Value.ref b] below meth c H locs cells slots Q (F0 m 1330 ls []) := by
  have hx := Z.1.1
  have hb := Z.1.2.1
  have hl : lv_has ls 7 [(4, .int (nI i)), (0, .ref b), (1, .ref (ad 0 0)), (2, .ref (ad 16 0)), (3, .ref (ad 18 0))] := hl
  obtain ⟨⟨hEq, hKd, hS, hLk, hM, hG9, hc9, hV, hB, hM22⟩, hSe⟩ := id hTie
  refine lv_aload_n hx hb dL_law_1330 rfl (lv_at hl 2 rfl) ?_
  refine lv_aload_n hx hb dL_law_1331 rfl (lv_at hl 1 rfl) ?_
  refine lv_iload hx hb dL_law_1332 (lv_at hl 0 rfl) ?_
  refine lv_iconst (v := 1) hx hb dL_law_1334 (by decide) ?_
  refine lv_iadd hx hb dL_law_1335 ?_
  refine lv_topi (fun x_1335 e_1335 => ?_)
  obtain rfl : x_1335 = nI (i + 1) := e_1335.trans (nI_1 _)
  refine va_sld hx hb hX hbl (Nat.not_le.mpr hbl) X.2 (vp_in_nI (show i + 1 < L by omega) (by omega)) dL_law_1336 ?_
  refine lv_topi (fun x_1336 e_1336 => ?_)
  obtain rfl : x_1336 = xs (i + 1) := e_1336.trans (by rw [nI_clamp (by omega)])
  refine lv_aload_n hx hb dL_law_1337 rfl (lv_at hl 1 rfl) ?_
  refine lv_iload hx hb dL_law_1338 (lv_at hl 0 rfl) ?_
  refine lv_iconst (v := 2) hx hb dL_law_1340 (by decide) ?_
  refine lv_iadd hx hb dL_law_1341 ?_
  refine lv_topi (fun x_1341 e_1341 => ?_)
  obtain rfl : x_1341 = nI (i + 2) := e_1341.trans (nI_add _ 2)
  refine va_sld hx hb hX hbl (Nat.not_le.mpr hbl) X.2 (vp_in_nI (show i + 2 < L by omega) (by omega)) dL_law_1342 ?_
  refine lv_topi (fun x_1342 e_1342 => ?_)
  obtain rfl : x_1342 = xs (i + 2) := e_1342.trans (by rw [nI_clamp (by omega)])
  refine lv_aload_n hx hb dL_law_1343 rfl (lv_at hl 4 rfl) ?_
  refine k_xRi X (k_xrunSW (As := [.ref (ad 0 0), .int (xs (i + 1)), .int (xs (i + 2)), .ref (ad 18 0)]) (rest := []) Z X (c_L_next l s G S T o ad (xs (i + 1)) (xs (i + 2)) hE hS hLk) (k_cwSW 4 Z.1.2.2.2.2 (inU_34 _ (List.mem_of_getElem? (i := 22) rfl)) (inU_34 _ (List.mem_of_getElem? (i := 23) rfl)) (inU_7 _ (List.mem_of_getElem? (i := 7) rfl)) (inU_35 _ (List.mem_of_getElem? (i := 0) rfl)) rfl rfl (by decide +kernel) ⟨(Nat.le_of_ble_eq_true rfl), (Nat.le_of_ble_eq_true rfl)⟩) rfl hl.1 rfl (Nat.le_of_ble_eq_true rfl) dL_law_1344 ⟨r1, r2⟩) (fun _ _ _ _ _ _ _ hp => hp.elim) (fun r_1344 ad1 ct1 H locs hp X => ?_)
  obtain ⟨rfl, hAK, hq⟩ := hp
  rw [← hAK.1, ← hAK.2.1, ← hAK.2.2] at hl
  rcases hq with ⟨hC, S1, hR1, rfl⟩ | ⟨hC, rfl⟩
  · have hCe : cNext S (xs (i + 1)) (xs (i + 2)) = cNext T (xs (i + 1)) (xs (i + 2)) := cNext_e hEq (xs (i + 1)) (xs (i + 2))
    have hR1 : S1 = S := hR1
    rw [hR1] at X
    have hCT : cNext T (xs (i + 1)) (xs (i + 2)) = 0 := hCe.symm.trans hC
    have hT1 := (hTie.t24 0).up (Nat.le_succ n)
    have h24 : (sI T 24 0 0).1 24 0 = 0 := sI_s
    have hval := t_next hTie (cl (xs (i + 1))) (xs (i + 2))
    refine lv_istore (lv' := [(5, .int (cNext S (xs (i + 1)) (xs (i + 2)))), (4, .int (nI i)), (0, .ref b), (1, .ref (ad1 0 0)), (2, .ref (ad1 16 0)), (3, .ref (ad1 18 0))]) hx hb dL_law_1347 hl (by decide) rfl (fun ls hl => ?_)
    refine lv_aload_n hx hb dL_law_1349 rfl (lv_at hl 4 rfl) ?_
    refine lv_aload_n hx hb dL_law_1350 rfl (lv_at hl 2 rfl) ?_
    refine lv_iload hx hb dL_law_1351 (lv_at hl 1 rfl) ?_
    refine lv_iconst (v := 1) hx hb dL_law_1353 (by decide) ?_
    refine lv_iadd hx hb dL_law_1354 ?_
    refine lv_topi (fun x_1354 e_1354 => ?_)
    obtain rfl : x_1354 = nI (i + 1) := e_1354.trans (nI_1 _)
    refine va_sld hx hb hX hbl (Nat.not_le.mpr hbl) X.2 (vp_in_nI (show i + 1 < L by omega) (by omega)) dL_law_1355 ?_
    refine lv_topi (fun x_1355 e_1355 => ?_)
    obtain rfl : x_1355 = xs (i + 1) := e_1355.trans (by rw [nI_clamp (by omega)])
    refine lv_aload_n hx hb dL_law_1356 rfl (lv_at hl 2 rfl) ?_
    refine lv_iload hx hb dL_law_1357 (lv_at hl 1 rfl) ?_
    refine lv_iconst (v := 2) hx hb dL_law_1359 (by decide) ?_
    refine lv_iadd hx hb dL_law_1360 ?_
    refine lv_topi (fun x_1360 e_1360 => ?_)
    obtain rfl : x_1360 = nI (i + 2) := e_1360.trans (nI_add _ 2)
    refine va_sld hx hb hX hbl (Nat.not_le.mpr hbl) X.2 (vp_in_nI (show i + 2 < L by omega) (by omega)) dL_law_1361 ?_
    refine lv_topi (fun x_1361 e_1361 => ?_)
    obtain rfl : x_1361 = xs (i + 2) := e_1361.trans (by rw [nI_clamp (by omega)])
    refine k_Ri X (k_runV (As := [.int (xs (i + 1)), .int (xs (i + 2))]) (rest := []) Z X (c_X8_next l s G S T ((nxtC S (cl (xs (i + 1))) (xs (i + 2)) (S.2 0 3)).toInt64) ad1 (xs (i + 1)) (xs (i + 2)) (okN_e hEq hS) ) (k_cwV 2 Z.1.2.2.2.2 (inU_35 _ (List.mem_of_getElem? (i := 17) rfl)) (inU_35 _ (List.mem_of_getElem? (i := 18) rfl)) (inU_35 _ (List.mem_of_getElem? (i := 19) rfl)) (inU_1 _ (List.mem_of_getElem? (i := 5) rfl)) (inU_35 _ (List.mem_of_getElem? (i := 20) rfl)) rfl rfl (by decide +kernel) ⟨Nat.le_of_ble_eq_true rfl, Nat.le_of_ble_eq_true rfl⟩) (k_recv Z X ct_16 rfl) rfl hl.1 rfl (Nat.le_of_ble_eq_true rfl) dL_law_1362 ⟨r1, r2⟩) (fun r_1362 ad2 ct2 H locs hp X => ?_)
    obtain ⟨hv, ha_, hb_⟩ := hp
    rw [if_pos hCT] at hb_
    rw [← ha_, hb_] at X
    have hv2 : r_1362 = nxtC S (cl (xs (i + 1))) (xs (i + 2)) (S.2 0 3) := (hv hCT).trans hval.symm
    subst hv2
    refine lv_istore (lv' := [(6, .int (nxtC S (cl (xs (i + 1))) (xs (i + 2)) (S.2 0 3))), (5, .int (cNext S (xs (i + 1)) (xs (i + 2)))), (4, .int (nI i)), (0, .ref b), (1, .ref (ad1 0 0)), (2, .ref (ad1 16 0)), (3, .ref (ad1 18 0))]) hx hb dL_law_1365 hl (by decide) rfl (fun ls hl => ?_)
    refine lv_aload_n hx hb dL_law_1367 rfl (lv_at hl 5 rfl) ?_
    refine k_Ri X (k_runV (As := []) (rest := []) Z X (c_X8_thrown l s G S (sI T 24 0 0) ((nxtC S (cl (xs (i + 1))) (xs (i + 2)) (S.2 0 3)).toInt64) ad1) (k_cwV 0 Z.1.2.2.2.2 (inU_9 _ (List.mem_of_getElem? (i := 7) rfl)) (inU_9 _ (List.mem_of_getElem? (i := 8) rfl)) (inU_9 _ (List.mem_of_getElem? (i := 9) rfl)) (inU_1 _ (List.mem_of_getElem? (i := 5) rfl)) (inU_9 _ (List.mem_of_getElem? (i := 10) rfl)) rfl rfl (by decide +kernel) ⟨Nat.le_of_ble_eq_true rfl, Nat.le_of_ble_eq_true rfl⟩) (k_recv Z X ct_16 rfl) rfl hl.1 rfl (Nat.le_of_ble_eq_true rfl) dL_law_1368 ⟨r1, r2⟩) (fun r_1368 ad2 ct2 H locs hp X => ?_)
    obtain ⟨rfl, ha_, hb_⟩ := hp
    rw [← ha_, hb_] at X
    refine lv_iload hx hb dL_law_1371 (lv_at hl 1 rfl) ?_
    refine lv_icmp_eq (tgt := 1378) hx hb dL_law_1373 (by decide) (fun c_1373 => ?_) (fun c_1373 => ?_)
    · refine lv_iload hx hb dL_law_1378 (lv_at hl 1 rfl) ?_
      refine lv_if_ne (tgt := 1395) hx hb dL_law_1380 (by decide) (fun c_1380 => ?_) (fun c_1380 => ?_)
      · exact absurd hC c_1380
      · refine lv_aload_n hx hb dL_law_1383 rfl (lv_at hl 6 rfl) ?_
        refine lv_iconst (v := 0) hx hb dL_law_1384 (by decide) ?_
        refine k_lld (ad := ad1) (k := 18) (i := 0) Z X ct_18 (by unfold vp_in; decide) dL_law_1385 ?_
        refine lv_iload hx hb dL_law_1386 (lv_at hl 0 rfl) ?_
        refine lv_i2l (v := (nxtC S (cl (xs (i + 1))) (xs (i + 2)) (S.2 0 3)).toInt64) hx hb dL_law_1388 rfl ?_
        refine W.lcmp hx hb dL_law_1389 ?_
        refine lv_topi (fun x_1389 e_1389 => ?_)
        obtain rfl : x_1389 = 0 := e_1389.trans (lg_self _)
        refine lv_if_eq (tgt := 1395) hx hb dL_law_1390 (by decide) (fun c_1390 => ?_) (fun c_1390 => ?_)
        · refine lv_goto (tgt := 1522) hx hb dL_law_1395 (by decide) ?_
          exact K _ _ _ _ _ _ _ hT1 X (lv_sub hl [2, 3, 4, 5, 6] rfl)
        · exact absurd c_1390 (by decide)
    · exact absurd (h24.trans hC.symm) c_1373
  · have hCe : cNext S (xs (i + 1)) (xs (i + 2)) = cNext T (xs (i + 1)) (xs (i + 2)) := cNext_e hEq (xs (i + 1)) (xs (i + 2))
    have hCT : ¬ cNext T (xs (i + 1)) (xs (i + 2)) = 0 := fun z => hC (hCe.trans z)
    refine lv_istore (lv' := [(5, .int (cNext S (xs (i + 1)) (xs (i + 2)))), (4, .int (nI i)), (0, .ref b), (1, .ref (ad1 0 0)), (2, .ref (ad1 16 0)), (3, .ref (ad1 18 0))]) hx hb dL_law_1347 hl (by decide) rfl (fun ls hl => ?_)
    refine lv_aload_n hx hb dL_law_1349 rfl (lv_at hl 4 rfl) ?_
    refine lv_aload_n hx hb dL_law_1350 rfl (lv_at hl 2 rfl) ?_
    refine lv_iload hx hb dL_law_1351 (lv_at hl 1 rfl) ?_
    refine lv_iconst (v := 1) hx hb dL_law_1353 (by decide) ?_
    refine lv_iadd hx hb dL_law_1354 ?_
    refine lv_topi (fun x_1354 e_1354 => ?_)
    obtain rfl : x_1354 = nI (i + 1) := e_1354.trans (nI_1 _)
    refine va_sld hx hb hX hbl (Nat.not_le.mpr hbl) X.2 (vp_in_nI (show i + 1 < L by omega) (by omega)) dL_law_1355 ?_
    refine lv_topi (fun x_1355 e_1355 => ?_)
    obtain rfl : x_1355 = xs (i + 1) := e_1355.trans (by rw [nI_clamp (by omega)])
    refine lv_aload_n hx hb dL_law_1356 rfl (lv_at hl 2 rfl) ?_
    refine lv_iload hx hb dL_law_1357 (lv_at hl 1 rfl) ?_
    refine lv_iconst (v := 2) hx hb dL_law_1359 (by decide) ?_
    refine lv_iadd hx hb dL_law_1360 ?_
    refine lv_topi (fun x_1360 e_1360 => ?_)
    obtain rfl : x_1360 = nI (i + 2) := e_1360.trans (nI_add _ 2)
    refine va_sld hx hb hX hbl (Nat.not_le.mpr hbl) X.2 (vp_in_nI (show i + 2 < L by omega) (by omega)) dL_law_1361 ?_
    refine lv_topi (fun x_1361 e_1361 => ?_)
    obtain rfl : x_1361 = xs (i + 2) := e_1361.trans (by rw [nI_clamp (by omega)])
    refine k_Ri X (k_runV (As := [.int (xs (i + 1)), .int (xs (i + 2))]) (rest := []) Z X (c_X8_next l s G S T o ad1 (xs (i + 1)) (xs (i + 2)) (okN_e hEq hS) ) (k_cwV 2 Z.1.2.2.2.2 (inU_35 _ (List.mem_of_getElem? (i := 17) rfl)) (inU_35 _ (List.mem_of_getElem? (i := 18) rfl)) (inU_35 _ (List.mem_of_getElem? (i := 19) rfl)) (inU_1 _ (List.mem_of_getElem? (i := 5) rfl)) (inU_35 _ (List.mem_of_getElem? (i := 20) rfl)) rfl rfl (by decide +kernel) ⟨Nat.le_of_ble_eq_true rfl, Nat.le_of_ble_eq_true rfl⟩) (k_recv Z X ct_16 rfl) rfl hl.1 rfl (Nat.le_of_ble_eq_true rfl) dL_law_1362 ⟨r1, r2⟩) (fun r_1362 ad2 ct2 H locs hp X => ?_)
    obtain ⟨hv, ha_, hb_⟩ := hp
    rw [if_neg hCT] at hb_
    rw [← ha_, hb_] at X
    refine lv_istore (lv' := [(6, .int r_1362), (5, .int (cNext S (xs (i + 1)) (xs (i + 2)))), (4, .int (nI i)), (0, .ref b), (1, .ref (ad1 0 0)), (2, .ref (ad1 16 0)), (3, .ref (ad1 18 0))]) hx hb dL_law_1365 hl (by decide) rfl (fun ls hl => ?_)
    refine lv_aload_n hx hb dL_law_1367 rfl (lv_at hl 5 rfl) ?_
    refine k_Ri X (k_runV (As := []) (rest := []) Z X (c_X8_thrown l s G S (sI T 24 0 (cNext T (xs (i + 1)) (xs (i + 2)))) o ad1) (k_cwV 0 Z.1.2.2.2.2 (inU_9 _ (List.mem_of_getElem? (i := 7) rfl)) (inU_9 _ (List.mem_of_getElem? (i := 8) rfl)) (inU_9 _ (List.mem_of_getElem? (i := 9) rfl)) (inU_1 _ (List.mem_of_getElem? (i := 5) rfl)) (inU_9 _ (List.mem_of_getElem? (i := 10) rfl)) rfl rfl (by decide +kernel) ⟨Nat.le_of_ble_eq_true rfl, Nat.le_of_ble_eq_true rfl⟩) (k_recv Z X ct_16 rfl) rfl hl.1 rfl (Nat.le_of_ble_eq_true rfl) dL_law_1368 ⟨r1, r2⟩) (fun r_1368 ad2 ct2 H locs hp X => ?_)
    obtain ⟨rfl, ha_, hb_⟩ := hp
    rw [← ha_, hb_] at X
    refine lv_iload hx hb dL_law_1371 (lv_at hl 1 rfl) ?_
    refine lv_icmp_eq (tgt := 1378) hx hb dL_law_1373 (by decide) (fun c_1373 => ?_) (fun c_1373 => ?_)
    · refine lv_iload hx hb dL_law_1378 (lv_at hl 1 rfl) ?_
      refine lv_if_ne (tgt := 1395) hx hb dL_law_1380 (by decide) (fun c_1380 => ?_) (fun c_1380 => ?_)
      · refine lv_goto (tgt := 1522) hx hb dL_law_1395 (by decide) ?_
        exact K _ _ _ _ _ _ _ ((hTie.t24 _).up (Nat.le_succ n)) X (lv_sub hl [2, 3, 4, 5, 6] rfl)
      · exact absurd c_1380 hC
    · exact absurd (sI_s.trans hCe.symm) c_1373
set_option maxHeartbeats 1000000 in
set_option maxRecDepth 100000 in
theorem a_taskOf (hE : kE l s G) (Z : kZ p m c code 7 s #[Value.ref b] wsL_law RL s G) (hX : va_X b L xs s s.heap) (hbl : b < s.heap.size) (hTie : Tie n S T) (hn : n < 512) (X : kX s G s H locs ad (cto G S T o ad)) (hl : lv_has ls 7 (lwLv b i ad)) (hi : i + 5 ≤ L) (hL9 : L ≤ 2560) (r1 : cells + 20 ≤ room_1.cells) (r2 : slots + 400 ≤ room_1.slots) (K : lwK p l e s m below meth c G b i (n + 1) (cells + 20) (slots + 400) Q) : W p l e room_1 s m #[Value.ref b] below meth c H locs cells slots Q (F0 m 1398 ls []) := by
  have hx := Z.1.1
  have hb := Z.1.2.1
  have hl : lv_has ls 7 [(4, .int (nI i)), (0, .ref b), (1, .ref (ad 0 0)), (2, .ref (ad 16 0)), (3, .ref (ad 18 0))] := hl
  obtain ⟨⟨hEq, hKd, hS, hLk, hM, hG9, hc9, hV, hB, hM22⟩, hSe⟩ := id hTie
  refine lv_aload_n hx hb dL_law_1398 rfl (lv_at hl 2 rfl) ?_
  refine lv_aload_n hx hb dL_law_1399 rfl (lv_at hl 1 rfl) ?_
  refine lv_iload hx hb dL_law_1400 (lv_at hl 0 rfl) ?_
  refine lv_iconst (v := 1) hx hb dL_law_1402 (by decide) ?_
  refine lv_iadd hx hb dL_law_1403 ?_
  refine lv_topi (fun x_1403 e_1403 => ?_)
  obtain rfl : x_1403 = nI (i + 1) := e_1403.trans (nI_1 _)
  refine va_sld hx hb hX hbl (Nat.not_le.mpr hbl) X.2 (vp_in_nI (show i + 1 < L by omega) (by omega)) dL_law_1404 ?_
  refine lv_topi (fun x_1404 e_1404 => ?_)
  obtain rfl : x_1404 = xs (i + 1) := e_1404.trans (by rw [nI_clamp (by omega)])
  refine lv_aload_n hx hb dL_law_1405 rfl (lv_at hl 4 rfl) ?_
  refine k_xRi X (k_xrunSW (As := [.ref (ad 0 0), .int (xs (i + 1)), .ref (ad 18 0)]) (rest := []) Z X (c_L_taskOf l s G S T o ad (xs (i + 1)) hE hS hLk) (k_cwSW 3 Z.1.2.2.2.2 (inU_35 _ (List.mem_of_getElem? (i := 21) rfl)) (inU_35 _ (List.mem_of_getElem? (i := 22) rfl)) (inU_7 _ (List.mem_of_getElem? (i := 7) rfl)) (inU_35 _ (List.mem_of_getElem? (i := 23) rfl)) rfl rfl (by decide +kernel) ⟨(Nat.le_of_ble_eq_true rfl), (Nat.le_of_ble_eq_true rfl)⟩) rfl hl.1 rfl (Nat.le_of_ble_eq_true rfl) dL_law_1406 ⟨r1, r2⟩) (fun _ _ _ _ _ _ _ hp => hp.elim) (fun r_1406 ad1 ct1 H locs hp X => ?_)
  obtain ⟨rfl, hAK, hq⟩ := hp
  rw [← hAK.1, ← hAK.2.1, ← hAK.2.2] at hl
  rcases hq with ⟨hC, S1, hR1, rfl⟩ | ⟨hC, rfl⟩
  · have hCe : cTaskOf S (xs (i + 1)) = cTaskOf T (xs (i + 1)) := cTaskOf_e hEq (xs (i + 1))
    have hR1 : S1 = S := hR1
    rw [hR1] at X
    have hCT : cTaskOf T (xs (i + 1)) = 0 := hCe.symm.trans hC
    have hT1 := (hTie.t24 0).up (Nat.le_succ n)
    have h24 : (sI T 24 0 0).1 24 0 = 0 := sI_s
    have hval : S.1 14 (cl (xs (i + 1))) = T.1 14 (cl (xs (i + 1))) := by rw [hEq.i (f := 14)]
    refine lv_istore (lv' := [(5, .int (cTaskOf S (xs (i + 1)))), (4, .int (nI i)), (0, .ref b), (1, .ref (ad1 0 0)), (2, .ref (ad1 16 0)), (3, .ref (ad1 18 0))]) hx hb dL_law_1409 hl (by decide) rfl (fun ls hl => ?_)
    refine lv_aload_n hx hb dL_law_1411 rfl (lv_at hl 4 rfl) ?_
    refine lv_aload_n hx hb dL_law_1412 rfl (lv_at hl 2 rfl) ?_
    refine lv_iload hx hb dL_law_1413 (lv_at hl 1 rfl) ?_
    refine lv_iconst (v := 1) hx hb dL_law_1415 (by decide) ?_
    refine lv_iadd hx hb dL_law_1416 ?_
    refine lv_topi (fun x_1416 e_1416 => ?_)
    obtain rfl : x_1416 = nI (i + 1) := e_1416.trans (nI_1 _)
    refine va_sld hx hb hX hbl (Nat.not_le.mpr hbl) X.2 (vp_in_nI (show i + 1 < L by omega) (by omega)) dL_law_1417 ?_
    refine lv_topi (fun x_1417 e_1417 => ?_)
    obtain rfl : x_1417 = xs (i + 1) := e_1417.trans (by rw [nI_clamp (by omega)])
    refine k_Ri X (k_runV (As := [.int (xs (i + 1))]) (rest := []) Z X (c_X8_taskOf l s G S T ((S.1 14 (cl (xs (i + 1)))).toInt64) ad1 (xs (i + 1)) (okN_e hEq hS) ) (k_cwV 1 Z.1.2.2.2.2 (inU_36 _ (List.mem_of_getElem? (i := 4) rfl)) (inU_36 _ (List.mem_of_getElem? (i := 5) rfl)) (inU_36 _ (List.mem_of_getElem? (i := 6) rfl)) (inU_1 _ (List.mem_of_getElem? (i := 5) rfl)) (inU_36 _ (List.mem_of_getElem? (i := 7) rfl)) rfl rfl (by decide +kernel) ⟨Nat.le_of_ble_eq_true rfl, Nat.le_of_ble_eq_true rfl⟩) (k_recv Z X ct_16 rfl) rfl hl.1 rfl (Nat.le_of_ble_eq_true rfl) dL_law_1418 ⟨r1, r2⟩) (fun r_1418 ad2 ct2 H locs hp X => ?_)
    obtain ⟨hv, ha_, hb_⟩ := hp
    rw [if_pos hCT] at hb_
    rw [← ha_, hb_] at X
    have hv2 : r_1418 = S.1 14 (cl (xs (i + 1))) := (hv hCT).trans hval.symm
    subst hv2
    refine lv_istore (lv' := [(6, .int (S.1 14 (cl (xs (i + 1))))), (5, .int (cTaskOf S (xs (i + 1)))), (4, .int (nI i)), (0, .ref b), (1, .ref (ad1 0 0)), (2, .ref (ad1 16 0)), (3, .ref (ad1 18 0))]) hx hb dL_law_1421 hl (by decide) rfl (fun ls hl => ?_)
    refine lv_aload_n hx hb dL_law_1423 rfl (lv_at hl 5 rfl) ?_
    refine k_Ri X (k_runV (As := []) (rest := []) Z X (c_X8_thrown l s G S (sI T 24 0 0) ((S.1 14 (cl (xs (i + 1)))).toInt64) ad1) (k_cwV 0 Z.1.2.2.2.2 (inU_9 _ (List.mem_of_getElem? (i := 7) rfl)) (inU_9 _ (List.mem_of_getElem? (i := 8) rfl)) (inU_9 _ (List.mem_of_getElem? (i := 9) rfl)) (inU_1 _ (List.mem_of_getElem? (i := 5) rfl)) (inU_9 _ (List.mem_of_getElem? (i := 10) rfl)) rfl rfl (by decide +kernel) ⟨Nat.le_of_ble_eq_true rfl, Nat.le_of_ble_eq_true rfl⟩) (k_recv Z X ct_16 rfl) rfl hl.1 rfl (Nat.le_of_ble_eq_true rfl) dL_law_1424 ⟨r1, r2⟩) (fun r_1424 ad2 ct2 H locs hp X => ?_)
    obtain ⟨rfl, ha_, hb_⟩ := hp
    rw [← ha_, hb_] at X
    refine lv_iload hx hb dL_law_1427 (lv_at hl 1 rfl) ?_
    refine lv_icmp_eq (tgt := 1434) hx hb dL_law_1429 (by decide) (fun c_1429 => ?_) (fun c_1429 => ?_)
    · refine lv_iload hx hb dL_law_1434 (lv_at hl 1 rfl) ?_
      refine lv_if_ne (tgt := 1451) hx hb dL_law_1436 (by decide) (fun c_1436 => ?_) (fun c_1436 => ?_)
      · exact absurd hC c_1436
      · refine lv_aload_n hx hb dL_law_1439 rfl (lv_at hl 6 rfl) ?_
        refine lv_iconst (v := 0) hx hb dL_law_1440 (by decide) ?_
        refine k_lld (ad := ad1) (k := 18) (i := 0) Z X ct_18 (by unfold vp_in; decide) dL_law_1441 ?_
        refine lv_iload hx hb dL_law_1442 (lv_at hl 0 rfl) ?_
        refine lv_i2l (v := (S.1 14 (cl (xs (i + 1)))).toInt64) hx hb dL_law_1444 rfl ?_
        refine W.lcmp hx hb dL_law_1445 ?_
        refine lv_topi (fun x_1445 e_1445 => ?_)
        obtain rfl : x_1445 = 0 := e_1445.trans (lg_self _)
        refine lv_if_eq (tgt := 1451) hx hb dL_law_1446 (by decide) (fun c_1446 => ?_) (fun c_1446 => ?_)
        · refine lv_goto (tgt := 1522) hx hb dL_law_1451 (by decide) ?_
          exact K _ _ _ _ _ _ _ hT1 X (lv_sub hl [2, 3, 4, 5, 6] rfl)
        · exact absurd c_1446 (by decide)
    · exact absurd (h24.trans hC.symm) c_1429
  · have hCe : cTaskOf S (xs (i + 1)) = cTaskOf T (xs (i + 1)) := cTaskOf_e hEq (xs (i + 1))
    have hCT : ¬ cTaskOf T (xs (i + 1)) = 0 := fun z => hC (hCe.trans z)
    refine lv_istore (lv' := [(5, .int (cTaskOf S (xs (i + 1)))), (4, .int (nI i)), (0, .ref b), (1, .ref (ad1 0 0)), (2, .ref (ad1 16 0)), (3, .ref (ad1 18 0))]) hx hb dL_law_1409 hl (by decide) rfl (fun ls hl => ?_)
    refine lv_aload_n hx hb dL_law_1411 rfl (lv_at hl 4 rfl) ?_
    refine lv_aload_n hx hb dL_law_1412 rfl (lv_at hl 2 rfl) ?_
    refine lv_iload hx hb dL_law_1413 (lv_at hl 1 rfl) ?_
    refine lv_iconst (v := 1) hx hb dL_law_1415 (by decide) ?_
    refine lv_iadd hx hb dL_law_1416 ?_
    refine lv_topi (fun x_1416 e_1416 => ?_)
    obtain rfl : x_1416 = nI (i + 1) := e_1416.trans (nI_1 _)
    refine va_sld hx hb hX hbl (Nat.not_le.mpr hbl) X.2 (vp_in_nI (show i + 1 < L by omega) (by omega)) dL_law_1417 ?_
    refine lv_topi (fun x_1417 e_1417 => ?_)
    obtain rfl : x_1417 = xs (i + 1) := e_1417.trans (by rw [nI_clamp (by omega)])
    refine k_Ri X (k_runV (As := [.int (xs (i + 1))]) (rest := []) Z X (c_X8_taskOf l s G S T o ad1 (xs (i + 1)) (okN_e hEq hS) ) (k_cwV 1 Z.1.2.2.2.2 (inU_36 _ (List.mem_of_getElem? (i := 4) rfl)) (inU_36 _ (List.mem_of_getElem? (i := 5) rfl)) (inU_36 _ (List.mem_of_getElem? (i := 6) rfl)) (inU_1 _ (List.mem_of_getElem? (i := 5) rfl)) (inU_36 _ (List.mem_of_getElem? (i := 7) rfl)) rfl rfl (by decide +kernel) ⟨Nat.le_of_ble_eq_true rfl, Nat.le_of_ble_eq_true rfl⟩) (k_recv Z X ct_16 rfl) rfl hl.1 rfl (Nat.le_of_ble_eq_true rfl) dL_law_1418 ⟨r1, r2⟩) (fun r_1418 ad2 ct2 H locs hp X => ?_)
    obtain ⟨hv, ha_, hb_⟩ := hp
    rw [if_neg hCT] at hb_
    rw [← ha_, hb_] at X
    refine lv_istore (lv' := [(6, .int r_1418), (5, .int (cTaskOf S (xs (i + 1)))), (4, .int (nI i)), (0, .ref b), (1, .ref (ad1 0 0)), (2, .ref (ad1 16 0)), (3, .ref (ad1 18 0))]) hx hb dL_law_1421 hl (by decide) rfl (fun ls hl => ?_)
    refine lv_aload_n hx hb dL_law_1423 rfl (lv_at hl 5 rfl) ?_
    refine k_Ri X (k_runV (As := []) (rest := []) Z X (c_X8_thrown l s G S (sI T 24 0 (cTaskOf T (xs (i + 1)))) o ad1) (k_cwV 0 Z.1.2.2.2.2 (inU_9 _ (List.mem_of_getElem? (i := 7) rfl)) (inU_9 _ (List.mem_of_getElem? (i := 8) rfl)) (inU_9 _ (List.mem_of_getElem? (i := 9) rfl)) (inU_1 _ (List.mem_of_getElem? (i := 5) rfl)) (inU_9 _ (List.mem_of_getElem? (i := 10) rfl)) rfl rfl (by decide +kernel) ⟨Nat.le_of_ble_eq_true rfl, Nat.le_of_ble_eq_true rfl⟩) (k_recv Z X ct_16 rfl) rfl hl.1 rfl (Nat.le_of_ble_eq_true rfl) dL_law_1424 ⟨r1, r2⟩) (fun r_1424 ad2 ct2 H locs hp X => ?_)
    obtain ⟨rfl, ha_, hb_⟩ := hp
    rw [← ha_, hb_] at X
    refine lv_iload hx hb dL_law_1427 (lv_at hl 1 rfl) ?_
    refine lv_icmp_eq (tgt := 1434) hx hb dL_law_1429 (by decide) (fun c_1429 => ?_) (fun c_1429 => ?_)
    · refine lv_iload hx hb dL_law_1434 (lv_at hl 1 rfl) ?_
      refine lv_if_ne (tgt := 1451) hx hb dL_law_1436 (by decide) (fun c_1436 => ?_) (fun c_1436 => ?_)
      · refine lv_goto (tgt := 1522) hx hb dL_law_1451 (by decide) ?_
        exact K _ _ _ _ _ _ _ ((hTie.t24 _).up (Nat.le_succ n)) X (lv_sub hl [2, 3, 4, 5, 6] rfl)
      · exact absurd c_1436 hC
    · exact absurd (sI_s.trans hCe.symm) c_1429
set_option maxHeartbeats 1000000 in
set_option maxRecDepth 100000 in
theorem a_label (hE : kE l s G) (Z : kZ p m c code 7 s #[Value.ref b] wsL_law RL s G) (hX : va_X b L xs s s.heap) (hbl : b < s.heap.size) (hTie : Tie n S T) (hn : n < 512) (X : kX s G s H locs ad (cto G S T o ad)) (hl : lv_has ls 7 (lwLv b i ad)) (hi : i + 5 ≤ L) (hL9 : L ≤ 2560) (r1 : cells + 20 ≤ room_1.cells) (r2 : slots + 400 ≤ room_1.slots) (K : lwK p l e s m below meth c G b i (n + 1) (cells + 20) (slots + 400) Q) : W p l e room_1 s m #[Value.ref b] below meth c H locs cells slots Q (F0 m 1454 ls []) := by
  have hx := Z.1.1
  have hb := Z.1.2.1
  have hl : lv_has ls 7 [(4, .int (nI i)), (0, .ref b), (1, .ref (ad 0 0)), (2, .ref (ad 16 0)), (3, .ref (ad 18 0))] := hl
  obtain ⟨⟨hEq, hKd, hS, hLk, hM, hG9, hc9, hV, hB, hM22⟩, hSe⟩ := id hTie
  refine lv_aload_n hx hb dL_law_1454 rfl (lv_at hl 2 rfl) ?_
  refine lv_aload_n hx hb dL_law_1455 rfl (lv_at hl 1 rfl) ?_
  refine lv_iload hx hb dL_law_1456 (lv_at hl 0 rfl) ?_
  refine lv_iconst (v := 1) hx hb dL_law_1458 (by decide) ?_
  refine lv_iadd hx hb dL_law_1459 ?_
  refine lv_topi (fun x_1459 e_1459 => ?_)
  obtain rfl : x_1459 = nI (i + 1) := e_1459.trans (nI_1 _)
  refine va_sld hx hb hX hbl (Nat.not_le.mpr hbl) X.2 (vp_in_nI (show i + 1 < L by omega) (by omega)) dL_law_1460 ?_
  refine lv_topi (fun x_1460 e_1460 => ?_)
  obtain rfl : x_1460 = xs (i + 1) := e_1460.trans (by rw [nI_clamp (by omega)])
  refine lv_aload_n hx hb dL_law_1461 rfl (lv_at hl 1 rfl) ?_
  refine lv_iload hx hb dL_law_1462 (lv_at hl 0 rfl) ?_
  refine lv_iconst (v := 2) hx hb dL_law_1464 (by decide) ?_
  refine lv_iadd hx hb dL_law_1465 ?_
  refine lv_topi (fun x_1465 e_1465 => ?_)
  obtain rfl : x_1465 = nI (i + 2) := e_1465.trans (nI_add _ 2)
  refine va_sld hx hb hX hbl (Nat.not_le.mpr hbl) X.2 (vp_in_nI (show i + 2 < L by omega) (by omega)) dL_law_1466 ?_
  refine lv_topi (fun x_1466 e_1466 => ?_)
  obtain rfl : x_1466 = xs (i + 2) := e_1466.trans (by rw [nI_clamp (by omega)])
  refine lv_aload_n hx hb dL_law_1467 rfl (lv_at hl 4 rfl) ?_
  refine k_xRi X (k_xrunSW (As := [.ref (ad 0 0), .int (xs (i + 1)), .int (xs (i + 2)), .ref (ad 18 0)]) (rest := []) Z X (c_L_label l s G S T o ad (xs (i + 1)) (xs (i + 2)) hE hS hLk) (k_cwSW 4 Z.1.2.2.2.2 (inU_36 _ (List.mem_of_getElem? (i := 8) rfl)) (inU_36 _ (List.mem_of_getElem? (i := 9) rfl)) (inU_7 _ (List.mem_of_getElem? (i := 7) rfl)) (inU_36 _ (List.mem_of_getElem? (i := 10) rfl)) rfl rfl (by decide +kernel) ⟨(Nat.le_of_ble_eq_true rfl), (Nat.le_of_ble_eq_true rfl)⟩) rfl hl.1 rfl (Nat.le_of_ble_eq_true rfl) dL_law_1468 ⟨r1, r2⟩) (fun _ _ _ _ _ _ _ hp => hp.elim) (fun r_1468 ad1 ct1 H locs hp X => ?_)
  obtain ⟨rfl, hAK, hq⟩ := hp
  rw [← hAK.1, ← hAK.2.1, ← hAK.2.2] at hl
  rcases hq with ⟨hC, S1, hR1, rfl⟩ | ⟨hC, rfl⟩
  · have hCe : cLabel S (xs (i + 1)) (xs (i + 2)) = cLabel T (xs (i + 1)) (xs (i + 2)) := cLabel_e hEq (xs (i + 1)) (xs (i + 2))
    have hR1 : S1 = S := hR1
    rw [hR1] at X
    have hCT : cLabel T (xs (i + 1)) (xs (i + 2)) = 0 := hCe.symm.trans hC
    have hval := t_label hTie (xs (i + 1)) (xs (i + 2))
    refine lv_istore (lv' := [(5, .int (cLabel S (xs (i + 1)) (xs (i + 2)))), (4, .int (nI i)), (0, .ref b), (1, .ref (ad1 0 0)), (2, .ref (ad1 16 0)), (3, .ref (ad1 18 0))]) hx hb dL_law_1471 hl (by decide) rfl (fun ls hl => ?_)
    refine lv_aload_n hx hb dL_law_1473 rfl (lv_at hl 4 rfl) ?_
    refine lv_aload_n hx hb dL_law_1474 rfl (lv_at hl 2 rfl) ?_
    refine lv_iload hx hb dL_law_1475 (lv_at hl 1 rfl) ?_
    refine lv_iconst (v := 1) hx hb dL_law_1477 (by decide) ?_
    refine lv_iadd hx hb dL_law_1478 ?_
    refine lv_topi (fun x_1478 e_1478 => ?_)
    obtain rfl : x_1478 = nI (i + 1) := e_1478.trans (nI_1 _)
    refine va_sld hx hb hX hbl (Nat.not_le.mpr hbl) X.2 (vp_in_nI (show i + 1 < L by omega) (by omega)) dL_law_1479 ?_
    refine lv_topi (fun x_1479 e_1479 => ?_)
    obtain rfl : x_1479 = xs (i + 1) := e_1479.trans (by rw [nI_clamp (by omega)])
    refine lv_aload_n hx hb dL_law_1480 rfl (lv_at hl 2 rfl) ?_
    refine lv_iload hx hb dL_law_1481 (lv_at hl 1 rfl) ?_
    refine lv_iconst (v := 2) hx hb dL_law_1483 (by decide) ?_
    refine lv_iadd hx hb dL_law_1484 ?_
    refine lv_topi (fun x_1484 e_1484 => ?_)
    obtain rfl : x_1484 = nI (i + 2) := e_1484.trans (nI_add _ 2)
    refine va_sld hx hb hX hbl (Nat.not_le.mpr hbl) X.2 (vp_in_nI (show i + 2 < L by omega) (by omega)) dL_law_1485 ?_
    refine lv_topi (fun x_1485 e_1485 => ?_)
    obtain rfl : x_1485 = xs (i + 2) := e_1485.trans (by rw [nI_clamp (by omega)])
    refine k_Ri X (k_runV (As := [.int (xs (i + 1)), .int (xs (i + 2))]) (rest := []) Z X (c_X8_label l s G S T ((rLabel S (xs (i + 1)) (xs (i + 2))).toInt64) ad1 (xs (i + 1)) (xs (i + 2)) (okN_e hEq hS) (fun j _ => by obtain ⟨q, q1, q2⟩ := hB.2.2.1 j; obtain ⟨q3, q4, q5⟩ := hB.2.2.2 j; rw [← hEq.i (f := 20), ← hEq.i (f := 13), q2, q5]; exact ⟨nI_pos (by omega), nI_pos (by omega)⟩)) (k_cwV 2 Z.1.2.2.2.2 (inU_37 _ (List.mem_of_getElem? (i := 15) rfl)) (inU_37 _ (List.mem_of_getElem? (i := 16) rfl)) (inU_37 _ (List.mem_of_getElem? (i := 17) rfl)) (inU_1 _ (List.mem_of_getElem? (i := 5) rfl)) (inU_37 _ (List.mem_of_getElem? (i := 18) rfl)) rfl rfl (by decide +kernel) ⟨Nat.le_of_ble_eq_true rfl, Nat.le_of_ble_eq_true rfl⟩) (k_recv Z X ct_16 rfl) rfl hl.1 rfl (Nat.le_of_ble_eq_true rfl) dL_law_1486 ⟨r1, r2⟩) (fun r_1486 ad2 ct2 H locs hp X => ?_)
    obtain ⟨hv, ha_, T1, hb_, h24, hi1, hi2⟩ := hp
    rw [← ha_, hb_] at X
    have hv2 : r_1486 = rLabel S (xs (i + 1)) (xs (i + 2)) := (hv hCT).trans hval.symm
    subst hv2
    have h24 : T1.1 24 0 = 0 := h24.trans hCT
    have hT1 := (hTie.mvT hi1 hi2).up (Nat.le_succ n)
    refine lv_istore (lv' := [(6, .int (rLabel S (xs (i + 1)) (xs (i + 2)))), (5, .int (cLabel S (xs (i + 1)) (xs (i + 2)))), (4, .int (nI i)), (0, .ref b), (1, .ref (ad1 0 0)), (2, .ref (ad1 16 0)), (3, .ref (ad1 18 0))]) hx hb dL_law_1489 hl (by decide) rfl (fun ls hl => ?_)
    refine lv_aload_n hx hb dL_law_1491 rfl (lv_at hl 5 rfl) ?_
    refine k_Ri X (k_runV (As := []) (rest := []) Z X (c_X8_thrown l s G S T1 ((rLabel S (xs (i + 1)) (xs (i + 2))).toInt64) ad1) (k_cwV 0 Z.1.2.2.2.2 (inU_9 _ (List.mem_of_getElem? (i := 7) rfl)) (inU_9 _ (List.mem_of_getElem? (i := 8) rfl)) (inU_9 _ (List.mem_of_getElem? (i := 9) rfl)) (inU_1 _ (List.mem_of_getElem? (i := 5) rfl)) (inU_9 _ (List.mem_of_getElem? (i := 10) rfl)) rfl rfl (by decide +kernel) ⟨Nat.le_of_ble_eq_true rfl, Nat.le_of_ble_eq_true rfl⟩) (k_recv Z X ct_16 rfl) rfl hl.1 rfl (Nat.le_of_ble_eq_true rfl) dL_law_1492 ⟨r1, r2⟩) (fun r_1492 ad2 ct2 H locs hp X => ?_)
    obtain ⟨rfl, ha_, hb_⟩ := hp
    rw [← ha_, hb_] at X
    refine lv_iload hx hb dL_law_1495 (lv_at hl 1 rfl) ?_
    refine lv_icmp_eq (tgt := 1502) hx hb dL_law_1497 (by decide) (fun c_1497 => ?_) (fun c_1497 => ?_)
    · refine lv_iload hx hb dL_law_1502 (lv_at hl 1 rfl) ?_
      refine lv_if_ne (tgt := 1519) hx hb dL_law_1504 (by decide) (fun c_1504 => ?_) (fun c_1504 => ?_)
      · exact absurd hC c_1504
      · refine lv_aload_n hx hb dL_law_1507 rfl (lv_at hl 6 rfl) ?_
        refine lv_iconst (v := 0) hx hb dL_law_1508 (by decide) ?_
        refine k_lld (ad := ad1) (k := 18) (i := 0) Z X ct_18 (by unfold vp_in; decide) dL_law_1509 ?_
        refine lv_iload hx hb dL_law_1510 (lv_at hl 0 rfl) ?_
        refine lv_i2l (v := (rLabel S (xs (i + 1)) (xs (i + 2))).toInt64) hx hb dL_law_1512 rfl ?_
        refine W.lcmp hx hb dL_law_1513 ?_
        refine lv_topi (fun x_1513 e_1513 => ?_)
        obtain rfl : x_1513 = 0 := e_1513.trans (lg_self _)
        refine lv_if_eq (tgt := 1519) hx hb dL_law_1514 (by decide) (fun c_1514 => ?_) (fun c_1514 => ?_)
        · refine lv_goto (tgt := 1522) hx hb dL_law_1519 (by decide) ?_
          exact K _ _ _ _ _ _ _ hT1 X (lv_sub hl [2, 3, 4, 5, 6] rfl)
        · exact absurd c_1514 (by decide)
    · exact absurd (h24.trans hC.symm) c_1497
  · have hCe : cLabel S (xs (i + 1)) (xs (i + 2)) = cLabel T (xs (i + 1)) (xs (i + 2)) := cLabel_e hEq (xs (i + 1)) (xs (i + 2))
    have hCT : ¬ cLabel T (xs (i + 1)) (xs (i + 2)) = 0 := fun z => hC (hCe.trans z)
    refine lv_istore (lv' := [(5, .int (cLabel S (xs (i + 1)) (xs (i + 2)))), (4, .int (nI i)), (0, .ref b), (1, .ref (ad1 0 0)), (2, .ref (ad1 16 0)), (3, .ref (ad1 18 0))]) hx hb dL_law_1471 hl (by decide) rfl (fun ls hl => ?_)
    refine lv_aload_n hx hb dL_law_1473 rfl (lv_at hl 4 rfl) ?_
    refine lv_aload_n hx hb dL_law_1474 rfl (lv_at hl 2 rfl) ?_
    refine lv_iload hx hb dL_law_1475 (lv_at hl 1 rfl) ?_
    refine lv_iconst (v := 1) hx hb dL_law_1477 (by decide) ?_
    refine lv_iadd hx hb dL_law_1478 ?_
    refine lv_topi (fun x_1478 e_1478 => ?_)
    obtain rfl : x_1478 = nI (i + 1) := e_1478.trans (nI_1 _)
    refine va_sld hx hb hX hbl (Nat.not_le.mpr hbl) X.2 (vp_in_nI (show i + 1 < L by omega) (by omega)) dL_law_1479 ?_
    refine lv_topi (fun x_1479 e_1479 => ?_)
    obtain rfl : x_1479 = xs (i + 1) := e_1479.trans (by rw [nI_clamp (by omega)])
    refine lv_aload_n hx hb dL_law_1480 rfl (lv_at hl 2 rfl) ?_
    refine lv_iload hx hb dL_law_1481 (lv_at hl 1 rfl) ?_
    refine lv_iconst (v := 2) hx hb dL_law_1483 (by decide) ?_
    refine lv_iadd hx hb dL_law_1484 ?_
    refine lv_topi (fun x_1484 e_1484 => ?_)
    obtain rfl : x_1484 = nI (i + 2) := e_1484.trans (nI_add _ 2)
    refine va_sld hx hb hX hbl (Nat.not_le.mpr hbl) X.2 (vp_in_nI (show i + 2 < L by omega) (by omega)) dL_law_1485 ?_
    refine lv_topi (fun x_1485 e_1485 => ?_)
    obtain rfl : x_1485 = xs (i + 2) := e_1485.trans (by rw [nI_clamp (by omega)])
    refine k_Ri X (k_runV (As := [.int (xs (i + 1)), .int (xs (i + 2))]) (rest := []) Z X (c_X8_label l s G S T o ad1 (xs (i + 1)) (xs (i + 2)) (okN_e hEq hS) (fun j _ => by obtain ⟨q, q1, q2⟩ := hB.2.2.1 j; obtain ⟨q3, q4, q5⟩ := hB.2.2.2 j; rw [← hEq.i (f := 20), ← hEq.i (f := 13), q2, q5]; exact ⟨nI_pos (by omega), nI_pos (by omega)⟩)) (k_cwV 2 Z.1.2.2.2.2 (inU_37 _ (List.mem_of_getElem? (i := 15) rfl)) (inU_37 _ (List.mem_of_getElem? (i := 16) rfl)) (inU_37 _ (List.mem_of_getElem? (i := 17) rfl)) (inU_1 _ (List.mem_of_getElem? (i := 5) rfl)) (inU_37 _ (List.mem_of_getElem? (i := 18) rfl)) rfl rfl (by decide +kernel) ⟨Nat.le_of_ble_eq_true rfl, Nat.le_of_ble_eq_true rfl⟩) (k_recv Z X ct_16 rfl) rfl hl.1 rfl (Nat.le_of_ble_eq_true rfl) dL_law_1486 ⟨r1, r2⟩) (fun r_1486 ad2 ct2 H locs hp X => ?_)
    obtain ⟨hv, ha_, T1, hb_, h24, hi1, hi2⟩ := hp
    rw [← ha_, hb_] at X
    refine lv_istore (lv' := [(6, .int r_1486), (5, .int (cLabel S (xs (i + 1)) (xs (i + 2)))), (4, .int (nI i)), (0, .ref b), (1, .ref (ad1 0 0)), (2, .ref (ad1 16 0)), (3, .ref (ad1 18 0))]) hx hb dL_law_1489 hl (by decide) rfl (fun ls hl => ?_)
    refine lv_aload_n hx hb dL_law_1491 rfl (lv_at hl 5 rfl) ?_
    refine k_Ri X (k_runV (As := []) (rest := []) Z X (c_X8_thrown l s G S T1 o ad1) (k_cwV 0 Z.1.2.2.2.2 (inU_9 _ (List.mem_of_getElem? (i := 7) rfl)) (inU_9 _ (List.mem_of_getElem? (i := 8) rfl)) (inU_9 _ (List.mem_of_getElem? (i := 9) rfl)) (inU_1 _ (List.mem_of_getElem? (i := 5) rfl)) (inU_9 _ (List.mem_of_getElem? (i := 10) rfl)) rfl rfl (by decide +kernel) ⟨Nat.le_of_ble_eq_true rfl, Nat.le_of_ble_eq_true rfl⟩) (k_recv Z X ct_16 rfl) rfl hl.1 rfl (Nat.le_of_ble_eq_true rfl) dL_law_1492 ⟨r1, r2⟩) (fun r_1492 ad2 ct2 H locs hp X => ?_)
    obtain ⟨rfl, ha_, hb_⟩ := hp
    rw [← ha_, hb_] at X
    refine lv_iload hx hb dL_law_1495 (lv_at hl 1 rfl) ?_
    refine lv_icmp_eq (tgt := 1502) hx hb dL_law_1497 (by decide) (fun c_1497 => ?_) (fun c_1497 => ?_)
    · refine lv_iload hx hb dL_law_1502 (lv_at hl 1 rfl) ?_
      refine lv_if_ne (tgt := 1519) hx hb dL_law_1504 (by decide) (fun c_1504 => ?_) (fun c_1504 => ?_)
      · refine lv_goto (tgt := 1522) hx hb dL_law_1519 (by decide) ?_
        exact K _ _ _ _ _ _ _ ((hTie.mvT hi1 hi2).up (Nat.le_succ n)) X (lv_sub hl [2, 3, 4, 5, 6] rfl)
      · exact absurd c_1504 hC
    · exact absurd (h24.trans hCe.symm) c_1497
end ARM
