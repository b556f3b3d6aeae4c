/-! THE LAW'S ARMS, further -/
section ARM
variable {p : Program} {l : Launch} {e : Env} {s : State} {m : MethodId} {below : List Frame} {meth : Method} {c : Code} {b L i n cells slots : Nat} {xs : Nat → Int32} {G : kG} {S T : kSt} {o : Int64} {ad : kAd} {H : Heap} {locs : List Loc} {ls : Array Slot} {Q : State → Prop}
set_option maxHeartbeats 1000000 in
set_option maxRecDepth 100000 in
theorem a_hold (hE : kE l s G) (Z : kZ p m c code 7 s #[Value.ref b] wsL_law RL s G) (hX : va_X b L xs s s.heap) (hbl : b < s.heap.size) (hTie : Tie n S T) (hn : n < 512) (X : kX s G s H locs ad (cto G S T o ad)) (hl : lv_has ls 7 (lwLv b i ad)) (hi : i + 5 ≤ L) (hL9 : L ≤ 2560) (r1 : cells + 20 ≤ room_1.cells) (r2 : slots + 400 ≤ room_1.slots) (K : lwK p l e s m below meth c G b i (n + 1) (cells + 20) (slots + 400) Q) : W p l e room_1 s m #[Value.ref b] below meth c H locs cells slots Q (F0 m 860 ls []) := by
  have hx := Z.1.1
  have hb := Z.1.2.1
  have hl : lv_has ls 7 [(4, .int (nI i)), (0, .ref b), (1, .ref (ad 0 0)), (2, .ref (ad 16 0)), (3, .ref (ad 18 0))] := hl
  obtain ⟨⟨hEq, hKd, hS, hLk, hM, hG9, hc9, hV, hB, hM22⟩, hSe⟩ := id hTie
  refine lv_aload_n hx hb dL_law_860 rfl (lv_at hl 2 rfl) ?_
  refine lv_aload_n hx hb dL_law_861 rfl (lv_at hl 1 rfl) ?_
  refine lv_iload hx hb dL_law_862 (lv_at hl 0 rfl) ?_
  refine lv_iconst (v := 1) hx hb dL_law_864 (by decide) ?_
  refine lv_iadd hx hb dL_law_865 ?_
  refine lv_topi (fun x_865 e_865 => ?_)
  obtain rfl : x_865 = nI (i + 1) := e_865.trans (nI_1 _)
  refine va_sld hx hb hX hbl (Nat.not_le.mpr hbl) X.2 (vp_in_nI (show i + 1 < L by omega) (by omega)) dL_law_866 ?_
  refine lv_topi (fun x_866 e_866 => ?_)
  obtain rfl : x_866 = xs (i + 1) := e_866.trans (by rw [nI_clamp (by omega)])
  refine lv_aload_n hx hb dL_law_867 rfl (lv_at hl 4 rfl) ?_
  refine k_xRi X (k_xrunSW (As := [.ref (ad 0 0), .int (xs (i + 1)), .ref (ad 18 0)]) (rest := []) Z X (c_L_hold l s G S T o ad (xs (i + 1)) hE hS hLk) (k_cwSW 3 Z.1.2.2.2.2 (inU_30 _ (List.mem_of_getElem? (i := 8) rfl)) (inU_30 _ (List.mem_of_getElem? (i := 9) rfl)) (inU_7 _ (List.mem_of_getElem? (i := 7) rfl)) (inU_30 _ (List.mem_of_getElem? (i := 10) rfl)) rfl rfl (by decide +kernel) ⟨(Nat.le_of_ble_eq_true rfl), (Nat.le_of_ble_eq_true rfl)⟩) rfl hl.1 rfl (Nat.le_of_ble_eq_true rfl) dL_law_868 ⟨r1, r2⟩) (fun _ _ _ _ _ _ _ hp => hp.elim) (fun r_868 ad1 ct1 H locs hp X => ?_)
  obtain ⟨rfl, hAK, hq⟩ := hp
  rw [← hAK.1, ← hAK.2.1, ← hAK.2.2] at hl
  rcases hq with ⟨hC, S1, hR1, rfl⟩ | ⟨hC, rfl⟩
  · have hCe : cHold (xs (i + 1)) = cHold (xs (i + 1)) := rfl
    have hR1 : S1 = oHold S (xs (i + 1)) := hR1
    rw [hR1] at X
    have hCT : cHold (xs (i + 1)) = 0 := hCe.symm.trans hC
    obtain ⟨hT1, h24, hval⟩ := t_hold hTie (xs (i + 1))
    refine lv_istore (lv' := [(5, .int (cHold (xs (i + 1)))), (4, .int (nI i)), (0, .ref b), (1, .ref (ad1 0 0)), (2, .ref (ad1 16 0)), (3, .ref (ad1 18 0))]) hx hb dL_law_871 hl (by decide) rfl (fun ls hl => ?_)
    refine lv_aload_n hx hb dL_law_873 rfl (lv_at hl 4 rfl) ?_
    refine lv_aload_n hx hb dL_law_874 rfl (lv_at hl 2 rfl) ?_
    refine lv_iload hx hb dL_law_875 (lv_at hl 1 rfl) ?_
    refine lv_iconst (v := 1) hx hb dL_law_877 (by decide) ?_
    refine lv_iadd hx hb dL_law_878 ?_
    refine lv_topi (fun x_878 e_878 => ?_)
    obtain rfl : x_878 = nI (i + 1) := e_878.trans (nI_1 _)
    refine va_sld hx hb hX hbl (Nat.not_le.mpr hbl) X.2 (vp_in_nI (show i + 1 < L by omega) (by omega)) dL_law_879 ?_
    refine lv_topi (fun x_879 e_879 => ?_)
    obtain rfl : x_879 = xs (i + 1) := e_879.trans (by rw [nI_clamp (by omega)])
    refine k_Ri X (k_runV (As := [.int (xs (i + 1))]) (rest := []) Z X (c_X8_hold l s G (oHold S (xs (i + 1))) T ((vHold S (xs (i + 1))).toInt64) ad1 (xs (i + 1)) (okN_e hEq hS) ) (k_cwV 1 Z.1.2.2.2.2 (inU_30 _ (List.mem_of_getElem? (i := 16) rfl)) (inU_30 _ (List.mem_of_getElem? (i := 17) rfl)) (inU_30 _ (List.mem_of_getElem? (i := 18) rfl)) (inU_1 _ (List.mem_of_getElem? (i := 5) rfl)) (inU_30 _ (List.mem_of_getElem? (i := 19) rfl)) rfl rfl (by decide +kernel) ⟨Nat.le_of_ble_eq_true rfl, Nat.le_of_ble_eq_true rfl⟩) (k_recv Z X ct_16 rfl) rfl hl.1 rfl (Nat.le_of_ble_eq_true rfl) dL_law_880 ⟨r1, r2⟩) (fun r_880 ad2 ct2 H locs hp X => ?_)
    obtain ⟨hv, ha_, hb_⟩ := hp
    rw [if_pos hCT] at hb_
    rw [← ha_, hb_] at X
    have hv2 : r_880 = vHold S (xs (i + 1)) := (hv hCT).trans hval.symm
    subst hv2
    refine lv_istore (lv' := [(6, .int (vHold S (xs (i + 1)))), (5, .int (cHold (xs (i + 1)))), (4, .int (nI i)), (0, .ref b), (1, .ref (ad1 0 0)), (2, .ref (ad1 16 0)), (3, .ref (ad1 18 0))]) hx hb dL_law_883 hl (by decide) rfl (fun ls hl => ?_)
    refine lv_aload_n hx hb dL_law_885 rfl (lv_at hl 5 rfl) ?_
    refine k_Ri X (k_runV (As := []) (rest := []) Z X (c_X8_thrown l s G (oHold S (xs (i + 1))) (oHold (sI T 24 0 0) (xs (i + 1))) ((vHold S (xs (i + 1))).toInt64) ad1) (k_cwV 0 Z.1.2.2.2.2 (inU_9 _ (List.mem_of_getElem? (i := 7) rfl)) (inU_9 _ (List.mem_of_getElem? (i := 8) rfl)) (inU_9 _ (List.mem_of_getElem? (i := 9) rfl)) (inU_1 _ (List.mem_of_getElem? (i := 5) rfl)) (inU_9 _ (List.mem_of_getElem? (i := 10) rfl)) rfl rfl (by decide +kernel) ⟨Nat.le_of_ble_eq_true rfl, Nat.le_of_ble_eq_true rfl⟩) (k_recv Z X ct_16 rfl) rfl hl.1 rfl (Nat.le_of_ble_eq_true rfl) dL_law_886 ⟨r1, r2⟩) (fun r_886 ad2 ct2 H locs hp X => ?_)
    obtain ⟨rfl, ha_, hb_⟩ := hp
    rw [← ha_, hb_] at X
    refine lv_iload hx hb dL_law_889 (lv_at hl 1 rfl) ?_
    refine lv_icmp_eq (tgt := 896) hx hb dL_law_891 (by decide) (fun c_891 => ?_) (fun c_891 => ?_)
    · refine lv_iload hx hb dL_law_896 (lv_at hl 1 rfl) ?_
      refine lv_if_ne (tgt := 920) hx hb dL_law_898 (by decide) (fun c_898 => ?_) (fun c_898 => ?_)
      · exact absurd hC c_898
      · refine lv_aload_n hx hb dL_law_901 rfl (lv_at hl 6 rfl) ?_
        refine lv_iconst (v := 0) hx hb dL_law_902 (by decide) ?_
        refine k_lld (ad := ad1) (k := 18) (i := 0) Z X ct_18 (by unfold vp_in; decide) dL_law_903 ?_
        refine lv_iload hx hb dL_law_904 (lv_at hl 0 rfl) ?_
        refine lv_if_eq (tgt := 913) hx hb dL_law_906 (by decide) (fun c_906 => ?_) (fun c_906 => ?_)
        · have cb_ : vHold S (xs (i + 1)) = bI false := c_906
          refine lv_lconst (v := 0) hx hb dL_law_913 (by decide) ?_
          refine W.lcmp hx hb dL_law_914 ?_
          refine lv_topi (fun x_914 e_914 => ?_)
          have ez : (vHold S (xs (i + 1))).toInt64 = 0 := by rw [cb_]; rfl
          obtain rfl : x_914 = 0 := e_914.trans ((congrArg (fun z => lg_cmp z 0) ez).trans (lg_self _))
          refine lv_if_eq (tgt := 920) hx hb dL_law_915 (by decide) (fun c_915 => ?_) (fun c_915 => ?_)
          · refine lv_goto (tgt := 1522) hx hb dL_law_920 (by decide) ?_
            exact K _ _ _ _ _ _ _ hT1 X (lv_sub hl [2, 3, 4, 5, 6] rfl)
          · exact absurd c_915 (by decide)
        · have cb_ : vHold S (xs (i + 1)) = bI true := (show vHold S (xs (i + 1)) = 0 ∨ vHold S (xs (i + 1)) = 1 from bI_01).resolve_left c_906
          refine lv_lconst (v := 1) hx hb dL_law_909 (by decide) ?_
          refine lv_goto (tgt := 914) hx hb dL_law_910 (by decide) ?_
          refine W.lcmp hx hb dL_law_914 ?_
          refine lv_topi (fun x_914 e_914 => ?_)
          have ez : (vHold S (xs (i + 1))).toInt64 = 1 := by rw [cb_]; rfl
          obtain rfl : x_914 = 0 := e_914.trans ((congrArg (fun z => lg_cmp z 1) ez).trans (lg_self _))
          refine lv_if_eq (tgt := 920) hx hb dL_law_915 (by decide) (fun c_915 => ?_) (fun c_915 => ?_)
          · refine lv_goto (tgt := 1522) hx hb dL_law_920 (by decide) ?_
            exact K _ _ _ _ _ _ _ hT1 X (lv_sub hl [2, 3, 4, 5, 6] rfl)
          · exact absurd c_915 (by decide)
    · exact absurd (h24.trans hC.symm) c_891
  · have hCe : cHold (xs (i + 1)) = cHold (xs (i + 1)) := rfl
    have hCT : ¬ cHold (xs (i + 1)) = 0 := fun z => hC (hCe.trans z)
    refine lv_istore (lv' := [(5, .int (cHold (xs (i + 1)))), (4, .int (nI i)), (0, .ref b), (1, .ref (ad1 0 0)), (2, .ref (ad1 16 0)), (3, .ref (ad1 18 0))]) hx hb dL_law_871 hl (by decide) rfl (fun ls hl => ?_)
    refine lv_aload_n hx hb dL_law_873 rfl (lv_at hl 4 rfl) ?_
    refine lv_aload_n hx hb dL_law_874 rfl (lv_at hl 2 rfl) ?_
    refine lv_iload hx hb dL_law_875 (lv_at hl 1 rfl) ?_
    refine lv_iconst (v := 1) hx hb dL_law_877 (by decide) ?_
    refine lv_iadd hx hb dL_law_878 ?_
    refine lv_topi (fun x_878 e_878 => ?_)
    obtain rfl : x_878 = nI (i + 1) := e_878.trans (nI_1 _)
    refine va_sld hx hb hX hbl (Nat.not_le.mpr hbl) X.2 (vp_in_nI (show i + 1 < L by omega) (by omega)) dL_law_879 ?_
    refine lv_topi (fun x_879 e_879 => ?_)
    obtain rfl : x_879 = xs (i + 1) := e_879.trans (by rw [nI_clamp (by omega)])
    refine k_Ri X (k_runV (As := [.int (xs (i + 1))]) (rest := []) Z X (c_X8_hold l s G S T o ad1 (xs (i + 1)) (okN_e hEq hS) ) (k_cwV 1 Z.1.2.2.2.2 (inU_30 _ (List.mem_of_getElem? (i := 16) rfl)) (inU_30 _ (List.mem_of_getElem? (i := 17) rfl)) (inU_30 _ (List.mem_of_getElem? (i := 18) rfl)) (inU_1 _ (List.mem_of_getElem? (i := 5) rfl)) (inU_30 _ (List.mem_of_getElem? (i := 19) rfl)) rfl rfl (by decide +kernel) ⟨Nat.le_of_ble_eq_true rfl, Nat.le_of_ble_eq_true rfl⟩) (k_recv Z X ct_16 rfl) rfl hl.1 rfl (Nat.le_of_ble_eq_true rfl) dL_law_880 ⟨r1, r2⟩) (fun r_880 ad2 ct2 H locs hp X => ?_)
    obtain ⟨hv, ha_, hb_⟩ := hp
    rw [if_neg hCT] at hb_
    rw [← ha_, hb_] at X
    refine lv_istore (lv' := [(6, .int r_880), (5, .int (cHold (xs (i + 1)))), (4, .int (nI i)), (0, .ref b), (1, .ref (ad1 0 0)), (2, .ref (ad1 16 0)), (3, .ref (ad1 18 0))]) hx hb dL_law_883 hl (by decide) rfl (fun ls hl => ?_)
    refine lv_aload_n hx hb dL_law_885 rfl (lv_at hl 5 rfl) ?_
    refine k_Ri X (k_runV (As := []) (rest := []) Z X (c_X8_thrown l s G S (sI T 24 0 (cHold (xs (i + 1)))) o ad1) (k_cwV 0 Z.1.2.2.2.2 (inU_9 _ (List.mem_of_getElem? (i := 7) rfl)) (inU_9 _ (List.mem_of_getElem? (i := 8) rfl)) (inU_9 _ (List.mem_of_getElem? (i := 9) rfl)) (inU_1 _ (List.mem_of_getElem? (i := 5) rfl)) (inU_9 _ (List.mem_of_getElem? (i := 10) rfl)) rfl rfl (by decide +kernel) ⟨Nat.le_of_ble_eq_true rfl, Nat.le_of_ble_eq_true rfl⟩) (k_recv Z X ct_16 rfl) rfl hl.1 rfl (Nat.le_of_ble_eq_true rfl) dL_law_886 ⟨r1, r2⟩) (fun r_886 ad2 ct2 H locs hp X => ?_)
    obtain ⟨rfl, ha_, hb_⟩ := hp
    rw [← ha_, hb_] at X
    refine lv_iload hx hb dL_law_889 (lv_at hl 1 rfl) ?_
    refine lv_icmp_eq (tgt := 896) hx hb dL_law_891 (by decide) (fun c_891 => ?_) (fun c_891 => ?_)
    · refine lv_iload hx hb dL_law_896 (lv_at hl 1 rfl) ?_
      refine lv_if_ne (tgt := 920) hx hb dL_law_898 (by decide) (fun c_898 => ?_) (fun c_898 => ?_)
      · refine lv_goto (tgt := 1522) hx hb dL_law_920 (by decide) ?_
        exact K _ _ _ _ _ _ _ ((hTie.t24 _).up (Nat.le_succ n)) X (lv_sub hl [2, 3, 4, 5, 6] rfl)
      · exact absurd c_898 hC
    · exact absurd (sI_s.trans hCe.symm) c_891
set_option maxHeartbeats 1000000 in
set_option maxRecDepth 100000 in
theorem a_archive (hE : kE l s G) (Z : kZ p m c code 7 s #[Value.ref b] wsL_law RL s G) (hX : va_X b L xs s s.heap) (hbl : b < s.heap.size) (hTie : Tie n S T) (hn : n < 512) (X : kX s G s H locs ad (cto G S T o ad)) (hl : lv_has ls 7 (lwLv b i ad)) (hi : i + 5 ≤ L) (hL9 : L ≤ 2560) (r1 : cells + 20 ≤ room_1.cells) (r2 : slots + 400 ≤ room_1.slots) (K : lwK p l e s m below meth c G b i (n + 1) (cells + 20) (slots + 400) Q) : W p l e room_1 s m #[Value.ref b] below meth c H locs cells slots Q (F0 m 923 ls []) := by
  have hx := Z.1.1
  have hb := Z.1.2.1
  have hl : lv_has ls 7 [(4, .int (nI i)), (0, .ref b), (1, .ref (ad 0 0)), (2, .ref (ad 16 0)), (3, .ref (ad 18 0))] := hl
  obtain ⟨⟨hEq, hKd, hS, hLk, hM, hG9, hc9, hV, hB, hM22⟩, hSe⟩ := id hTie
  refine lv_aload_n hx hb dL_law_923 rfl (lv_at hl 2 rfl) ?_
  refine lv_aload_n hx hb dL_law_924 rfl (lv_at hl 1 rfl) ?_
  refine lv_iload hx hb dL_law_925 (lv_at hl 0 rfl) ?_
  refine lv_iconst (v := 1) hx hb dL_law_927 (by decide) ?_
  refine lv_iadd hx hb dL_law_928 ?_
  refine lv_topi (fun x_928 e_928 => ?_)
  obtain rfl : x_928 = nI (i + 1) := e_928.trans (nI_1 _)
  refine va_sld hx hb hX hbl (Nat.not_le.mpr hbl) X.2 (vp_in_nI (show i + 1 < L by omega) (by omega)) dL_law_929 ?_
  refine lv_topi (fun x_929 e_929 => ?_)
  obtain rfl : x_929 = xs (i + 1) := e_929.trans (by rw [nI_clamp (by omega)])
  refine lv_aload_n hx hb dL_law_930 rfl (lv_at hl 4 rfl) ?_
  refine k_xRi X (k_xrunSW (As := [.ref (ad 0 0), .int (xs (i + 1)), .ref (ad 18 0)]) (rest := []) Z X (c_L_archive l s G S T o ad (xs (i + 1)) hE hS hLk) (k_cwSW 3 Z.1.2.2.2.2 (inU_30 _ (List.mem_of_getElem? (i := 20) rfl)) (inU_30 _ (List.mem_of_getElem? (i := 21) rfl)) (inU_7 _ (List.mem_of_getElem? (i := 7) rfl)) (inU_30 _ (List.mem_of_getElem? (i := 22) rfl)) rfl rfl (by decide +kernel) ⟨(Nat.le_of_ble_eq_true rfl), (Nat.le_of_ble_eq_true rfl)⟩) rfl hl.1 rfl (Nat.le_of_ble_eq_true rfl) dL_law_931 ⟨r1, r2⟩) (fun _ _ _ _ _ _ _ hp => hp.elim) (fun r_931 ad1 ct1 H locs hp X => ?_)
  obtain ⟨rfl, hAK, hq⟩ := hp
  rw [← hAK.1, ← hAK.2.1, ← hAK.2.2] at hl
  rcases hq with ⟨hC, S1, hR1, rfl⟩ | ⟨hC, rfl⟩
  · have hCe : cArch S (xs (i + 1)) = cArch T (xs (i + 1)) := cArch_e hEq (xs (i + 1))
    have hR1 : S1 = arcS S (cl (xs (i + 1))) (S.2 0 1) := hR1
    rw [hR1] at X
    have hCT : cArch T (xs (i + 1)) = 0 := hCe.symm.trans hC
    obtain ⟨hT1, h24, hval⟩ := t_arch hTie (cl (xs (i + 1)))
    refine lv_istore (lv' := [(5, .int (cArch S (xs (i + 1)))), (4, .int (nI i)), (0, .ref b), (1, .ref (ad1 0 0)), (2, .ref (ad1 16 0)), (3, .ref (ad1 18 0))]) hx hb dL_law_934 hl (by decide) rfl (fun ls hl => ?_)
    refine lv_aload_n hx hb dL_law_936 rfl (lv_at hl 4 rfl) ?_
    refine lv_aload_n hx hb dL_law_937 rfl (lv_at hl 2 rfl) ?_
    refine lv_iload hx hb dL_law_938 (lv_at hl 1 rfl) ?_
    refine lv_iconst (v := 1) hx hb dL_law_940 (by decide) ?_
    refine lv_iadd hx hb dL_law_941 ?_
    refine lv_topi (fun x_941 e_941 => ?_)
    obtain rfl : x_941 = nI (i + 1) := e_941.trans (nI_1 _)
    refine va_sld hx hb hX hbl (Nat.not_le.mpr hbl) X.2 (vp_in_nI (show i + 1 < L by omega) (by omega)) dL_law_942 ?_
    refine lv_topi (fun x_942 e_942 => ?_)
    obtain rfl : x_942 = xs (i + 1) := e_942.trans (by rw [nI_clamp (by omega)])
    refine k_Ri X (k_runV (As := [.int (xs (i + 1))]) (rest := []) Z X (c_X8_archive l s G (arcS S (cl (xs (i + 1))) (S.2 0 1)) T ((nI (arcN S (cl (xs (i + 1))) (S.2 0 1))).toInt64) ad1 (xs (i + 1)) (okN_e hEq hS) ) (k_cwV 1 Z.1.2.2.2.2 (inU_31 _ (List.mem_of_getElem? (i := 21) rfl)) (inU_31 _ (List.mem_of_getElem? (i := 22) rfl)) (inU_31 _ (List.mem_of_getElem? (i := 23) rfl)) (inU_1 _ (List.mem_of_getElem? (i := 5) rfl)) (inU_32 _ (List.mem_of_getElem? (i := 0) rfl)) rfl rfl (by decide +kernel) ⟨Nat.le_of_ble_eq_true rfl, Nat.le_of_ble_eq_true rfl⟩) (k_recv Z X ct_16 rfl) rfl hl.1 rfl (Nat.le_of_ble_eq_true rfl) dL_law_943 ⟨r1, r2⟩) (fun r_943 ad2 ct2 H locs hp X => ?_)
    obtain ⟨hv, ha_, hb_⟩ := hp
    rw [if_pos hCT] at hb_
    rw [← ha_, hb_] at X
    have hv2 : r_943 = nI (arcN S (cl (xs (i + 1))) (S.2 0 1)) := (hv hCT).trans hval.symm
    subst hv2
    refine lv_istore (lv' := [(6, .int (nI (arcN S (cl (xs (i + 1))) (S.2 0 1)))), (5, .int (cArch S (xs (i + 1)))), (4, .int (nI i)), (0, .ref b), (1, .ref (ad1 0 0)), (2, .ref (ad1 16 0)), (3, .ref (ad1 18 0))]) hx hb dL_law_946 hl (by decide) rfl (fun ls hl => ?_)
    refine lv_aload_n hx hb dL_law_948 rfl (lv_at hl 5 rfl) ?_
    refine k_Ri X (k_runV (As := []) (rest := []) Z X (c_X8_thrown l s G (arcS S (cl (xs (i + 1))) (S.2 0 1)) (arcS (sI T 24 0 0) (cl (xs (i + 1))) (T.2 0 1)) ((nI (arcN S (cl (xs (i + 1))) (S.2 0 1))).toInt64) ad1) (k_cwV 0 Z.1.2.2.2.2 (inU_9 _ (List.mem_of_getElem? (i := 7) rfl)) (inU_9 _ (List.mem_of_getElem? (i := 8) rfl)) (inU_9 _ (List.mem_of_getElem? (i := 9) rfl)) (inU_1 _ (List.mem_of_getElem? (i := 5) rfl)) (inU_9 _ (List.mem_of_getElem? (i := 10) rfl)) rfl rfl (by decide +kernel) ⟨Nat.le_of_ble_eq_true rfl, Nat.le_of_ble_eq_true rfl⟩) (k_recv Z X ct_16 rfl) rfl hl.1 rfl (Nat.le_of_ble_eq_true rfl) dL_law_949 ⟨r1, r2⟩) (fun r_949 ad2 ct2 H locs hp X => ?_)
    obtain ⟨rfl, ha_, hb_⟩ := hp
    rw [← ha_, hb_] at X
    refine lv_iload hx hb dL_law_952 (lv_at hl 1 rfl) ?_
    refine lv_icmp_eq (tgt := 959) hx hb dL_law_954 (by decide) (fun c_954 => ?_) (fun c_954 => ?_)
    · refine lv_iload hx hb dL_law_959 (lv_at hl 1 rfl) ?_
      refine lv_if_ne (tgt := 976) hx hb dL_law_961 (by decide) (fun c_961 => ?_) (fun c_961 => ?_)
      · exact absurd hC c_961
      · refine lv_aload_n hx hb dL_law_964 rfl (lv_at hl 6 rfl) ?_
        refine lv_iconst (v := 0) hx hb dL_law_965 (by decide) ?_
        refine k_lld (ad := ad1) (k := 18) (i := 0) Z X ct_18 (by unfold vp_in; decide) dL_law_966 ?_
        refine lv_iload hx hb dL_law_967 (lv_at hl 0 rfl) ?_
        refine lv_i2l (v := (nI (arcN S (cl (xs (i + 1))) (S.2 0 1))).toInt64) hx hb dL_law_969 rfl ?_
        refine W.lcmp hx hb dL_law_970 ?_
        refine lv_topi (fun x_970 e_970 => ?_)
        obtain rfl : x_970 = 0 := e_970.trans (lg_self _)
        refine lv_if_eq (tgt := 976) hx hb dL_law_971 (by decide) (fun c_971 => ?_) (fun c_971 => ?_)
        · refine lv_goto (tgt := 1522) hx hb dL_law_976 (by decide) ?_
          exact K _ _ _ _ _ _ _ hT1 X (lv_sub hl [2, 3, 4, 5, 6] rfl)
        · exact absurd c_971 (by decide)
    · exact absurd (h24.trans hC.symm) c_954
  · have hCe : cArch S (xs (i + 1)) = cArch T (xs (i + 1)) := cArch_e hEq (xs (i + 1))
    have hCT : ¬ cArch T (xs (i + 1)) = 0 := fun z => hC (hCe.trans z)
    refine lv_istore (lv' := [(5, .int (cArch S (xs (i + 1)))), (4, .int (nI i)), (0, .ref b), (1, .ref (ad1 0 0)), (2, .ref (ad1 16 0)), (3, .ref (ad1 18 0))]) hx hb dL_law_934 hl (by decide) rfl (fun ls hl => ?_)
    refine lv_aload_n hx hb dL_law_936 rfl (lv_at hl 4 rfl) ?_
    refine lv_aload_n hx hb dL_law_937 rfl (lv_at hl 2 rfl) ?_
    refine lv_iload hx hb dL_law_938 (lv_at hl 1 rfl) ?_
    refine lv_iconst (v := 1) hx hb dL_law_940 (by decide) ?_
    refine lv_iadd hx hb dL_law_941 ?_
    refine lv_topi (fun x_941 e_941 => ?_)
    obtain rfl : x_941 = nI (i + 1) := e_941.trans (nI_1 _)
    refine va_sld hx hb hX hbl (Nat.not_le.mpr hbl) X.2 (vp_in_nI (show i + 1 < L by omega) (by omega)) dL_law_942 ?_
    refine lv_topi (fun x_942 e_942 => ?_)
    obtain rfl : x_942 = xs (i + 1) := e_942.trans (by rw [nI_clamp (by omega)])
    refine k_Ri X (k_runV (As := [.int (xs (i + 1))]) (rest := []) Z X (c_X8_archive l s G S T o ad1 (xs (i + 1)) (okN_e hEq hS) ) (k_cwV 1 Z.1.2.2.2.2 (inU_31 _ (List.mem_of_getElem? (i := 21) rfl)) (inU_31 _ (List.mem_of_getElem? (i := 22) rfl)) (inU_31 _ (List.mem_of_getElem? (i := 23) rfl)) (inU_1 _ (List.mem_of_getElem? (i := 5) rfl)) (inU_32 _ (List.mem_of_getElem? (i := 0) rfl)) rfl rfl (by decide +kernel) ⟨Nat.le_of_ble_eq_true rfl, Nat.le_of_ble_eq_true rfl⟩) (k_recv Z X ct_16 rfl) rfl hl.1 rfl (Nat.le_of_ble_eq_true rfl) dL_law_943 ⟨r1, r2⟩) (fun r_943 ad2 ct2 H locs hp X => ?_)
    obtain ⟨hv, ha_, hb_⟩ := hp
    rw [if_neg hCT] at hb_
    rw [← ha_, hb_] at X
    refine lv_istore (lv' := [(6, .int r_943), (5, .int (cArch S (xs (i + 1)))), (4, .int (nI i)), (0, .ref b), (1, .ref (ad1 0 0)), (2, .ref (ad1 16 0)), (3, .ref (ad1 18 0))]) hx hb dL_law_946 hl (by decide) rfl (fun ls hl => ?_)
    refine lv_aload_n hx hb dL_law_948 rfl (lv_at hl 5 rfl) ?_
    refine k_Ri X (k_runV (As := []) (rest := []) Z X (c_X8_thrown l s G S (sI T 24 0 (cArch T (xs (i + 1)))) o ad1) (k_cwV 0 Z.1.2.2.2.2 (inU_9 _ (List.mem_of_getElem? (i := 7) rfl)) (inU_9 _ (List.mem_of_getElem? (i := 8) rfl)) (inU_9 _ (List.mem_of_getElem? (i := 9) rfl)) (inU_1 _ (List.mem_of_getElem? (i := 5) rfl)) (inU_9 _ (List.mem_of_getElem? (i := 10) rfl)) rfl rfl (by decide +kernel) ⟨Nat.le_of_ble_eq_true rfl, Nat.le_of_ble_eq_true rfl⟩) (k_recv Z X ct_16 rfl) rfl hl.1 rfl (Nat.le_of_ble_eq_true rfl) dL_law_949 ⟨r1, r2⟩) (fun r_949 ad2 ct2 H locs hp X => ?_)
    obtain ⟨rfl, ha_, hb_⟩ := hp
    rw [← ha_, hb_] at X
    refine lv_iload hx hb dL_law_952 (lv_at hl 1 rfl) ?_
    refine lv_icmp_eq (tgt := 959) hx hb dL_law_954 (by decide) (fun c_954 => ?_) (fun c_954 => ?_)
    · refine lv_iload hx hb dL_law_959 (lv_at hl 1 rfl) ?_
      refine lv_if_ne (tgt := 976) hx hb dL_law_961 (by decide) (fun c_961 => ?_) (fun c_961 => ?_)
      · refine lv_goto (tgt := 1522) hx hb dL_law_976 (by decide) ?_
        exact K _ _ _ _ _ _ _ ((hTie.t24 _).up (Nat.le_succ n)) X (lv_sub hl [2, 3, 4, 5, 6] rfl)
      · exact absurd c_961 hC
    · exact absurd (sI_s.trans hCe.symm) c_954
set_option maxHeartbeats 1000000 in
set_option maxRecDepth 100000 in
theorem a_pass (hE : kE l s G) (Z : kZ p m c code 7 s #[Value.ref b] wsL_law RL s G) (hX : va_X b L xs s s.heap) (hbl : b < s.heap.size) (hTie : Tie n S T) (hn : n < 512) (X : kX s G s H locs ad (cto G S T o ad)) (hl : lv_has ls 7 (lwLv b i ad)) (hi : i + 5 ≤ L) (hL9 : L ≤ 2560) (r1 : cells + 20 ≤ room_1.cells) (r2 : slots + 400 ≤ room_1.slots) (K : lwK p l e s m below meth c G b i (n + 1) (cells + 20) (slots + 400) Q) : W p l e room_1 s m #[Value.ref b] below meth c H locs cells slots Q (F0 m 979 ls []) := by
  have hx := Z.1.1
  have hb := Z.1.2.1
  have hl : lv_has ls 7 [(4, .int (nI i)), (0, .ref b), (1, .ref (ad 0 0)), (2, .ref (ad 16 0)), (3, .ref (ad 18 0))] := hl
  obtain ⟨⟨hEq, hKd, hS, hLk, hM, hG9, hc9, hV, hB, hM22⟩, hSe⟩ := id hTie
  refine lv_aload_n hx hb dL_law_979 rfl (lv_at hl 2 rfl) ?_
  refine lv_aload_n hx hb dL_law_980 rfl (lv_at hl 1 rfl) ?_
  refine lv_iload hx hb dL_law_981 (lv_at hl 0 rfl) ?_
  refine lv_iconst (v := 1) hx hb dL_law_983 (by decide) ?_
  refine lv_iadd hx hb dL_law_984 ?_
  refine lv_topi (fun x_984 e_984 => ?_)
  obtain rfl : x_984 = nI (i + 1) := e_984.trans (nI_1 _)
  refine va_sld hx hb hX hbl (Nat.not_le.mpr hbl) X.2 (vp_in_nI (show i + 1 < L by omega) (by omega)) dL_law_985 ?_
  refine lv_topi (fun x_985 e_985 => ?_)
  obtain rfl : x_985 = xs (i + 1) := e_985.trans (by rw [nI_clamp (by omega)])
  refine lv_aload_n hx hb dL_law_986 rfl (lv_at hl 4 rfl) ?_
  refine k_xRi X (k_xrunSW (As := [.ref (ad 0 0), .int (xs (i + 1)), .ref (ad 18 0)]) (rest := []) Z X (c_L_pass l s G S T o ad (xs (i + 1)) hE hS hLk (fun a u ha hu => (hM a u ha hu).1)) (k_cwSW 3 Z.1.2.2.2.2 (inU_32 _ (List.mem_of_getElem? (i := 5) rfl)) (inU_32 _ (List.mem_of_getElem? (i := 6) rfl)) (inU_7 _ (List.mem_of_getElem? (i := 7) rfl)) (inU_32 _ (List.mem_of_getElem? (i := 7) rfl)) rfl rfl (by decide +kernel) ⟨(Nat.le_of_ble_eq_true rfl), (Nat.le_of_ble_eq_true rfl)⟩) rfl hl.1 rfl (Nat.le_of_ble_eq_true rfl) dL_law_987 ⟨r1, r2⟩) (fun _ _ _ _ _ _ _ hp => hp.elim) (fun r_987 ad1 ct1 H locs hp X => ?_)
  obtain ⟨rfl, hAK, hq⟩ := hp
  rw [← hAK.1, ← hAK.2.1, ← hAK.2.2] at hl
  rcases hq with ⟨hC, S1, hR1, rfl⟩ | ⟨hC, rfl⟩
  · have hCe : cPass (xs (i + 1)) = cPass (xs (i + 1)) := rfl
    have hR1 : S1 = oPassC S (xs (i + 1)) := hR1
    rw [hR1] at X
    have hCT : cPass (xs (i + 1)) = 0 := hCe.symm.trans hC
    obtain ⟨hT1, h24, hval⟩ := t_pass hTie hn (xs (i + 1)) (cPass_0 hC)
    refine lv_istore (lv' := [(5, .int (cPass (xs (i + 1)))), (4, .int (nI i)), (0, .ref b), (1, .ref (ad1 0 0)), (2, .ref (ad1 16 0)), (3, .ref (ad1 18 0))]) hx hb dL_law_990 hl (by decide) rfl (fun ls hl => ?_)
    refine lv_aload_n hx hb dL_law_992 rfl (lv_at hl 4 rfl) ?_
    refine lv_aload_n hx hb dL_law_993 rfl (lv_at hl 2 rfl) ?_
    refine lv_iload hx hb dL_law_994 (lv_at hl 1 rfl) ?_
    refine lv_iconst (v := 1) hx hb dL_law_996 (by decide) ?_
    refine lv_iadd hx hb dL_law_997 ?_
    refine lv_topi (fun x_997 e_997 => ?_)
    obtain rfl : x_997 = nI (i + 1) := e_997.trans (nI_1 _)
    refine va_sld hx hb hX hbl (Nat.not_le.mpr hbl) X.2 (vp_in_nI (show i + 1 < L by omega) (by omega)) dL_law_998 ?_
    refine lv_topi (fun x_998 e_998 => ?_)
    obtain rfl : x_998 = xs (i + 1) := e_998.trans (by rw [nI_clamp (by omega)])
    refine k_Ri X (k_runV (As := [.int (xs (i + 1))]) (rest := []) Z X (c_X8_pass l s G (oPassC S (xs (i + 1))) T ((S.1 0 0 + (xs (i + 1))).toInt64) ad1 (xs (i + 1)) (okN_e hEq hS) ) (k_cwV 1 Z.1.2.2.2.2 (inU_32 _ (List.mem_of_getElem? (i := 12) rfl)) (inU_32 _ (List.mem_of_getElem? (i := 13) rfl)) (inU_32 _ (List.mem_of_getElem? (i := 14) rfl)) (inU_1 _ (List.mem_of_getElem? (i := 5) rfl)) (inU_32 _ (List.mem_of_getElem? (i := 15) rfl)) rfl rfl (by decide +kernel) ⟨Nat.le_of_ble_eq_true rfl, Nat.le_of_ble_eq_true rfl⟩) (k_recv Z X ct_16 rfl) rfl hl.1 rfl (Nat.le_of_ble_eq_true rfl) dL_law_999 ⟨r1, r2⟩) (fun r_999 ad2 ct2 H locs hp X => ?_)
    obtain ⟨hv, ha_, hb_⟩ := hp
    rw [if_pos hCT] at hb_
    rw [← ha_, hb_] at X
    have hv2 : r_999 = S.1 0 0 + (xs (i + 1)) := (hv hCT).trans hval.symm
    subst hv2
    refine lv_istore (lv' := [(6, .int (S.1 0 0 + (xs (i + 1)))), (5, .int (cPass (xs (i + 1)))), (4, .int (nI i)), (0, .ref b), (1, .ref (ad1 0 0)), (2, .ref (ad1 16 0)), (3, .ref (ad1 18 0))]) hx hb dL_law_1002 hl (by decide) rfl (fun ls hl => ?_)
    refine lv_aload_n hx hb dL_law_1004 rfl (lv_at hl 5 rfl) ?_
    refine k_Ri X (k_runV (As := []) (rest := []) Z X (c_X8_thrown l s G (oPassC S (xs (i + 1))) (itP (sI T 24 0 0) (kdT T) (cl (xs (i + 1)))) ((S.1 0 0 + (xs (i + 1))).toInt64) ad1) (k_cwV 0 Z.1.2.2.2.2 (inU_9 _ (List.mem_of_getElem? (i := 7) rfl)) (inU_9 _ (List.mem_of_getElem? (i := 8) rfl)) (inU_9 _ (List.mem_of_getElem? (i := 9) rfl)) (inU_1 _ (List.mem_of_getElem? (i := 5) rfl)) (inU_9 _ (List.mem_of_getElem? (i := 10) rfl)) rfl rfl (by decide +kernel) ⟨Nat.le_of_ble_eq_true rfl, Nat.le_of_ble_eq_true rfl⟩) (k_recv Z X ct_16 rfl) rfl hl.1 rfl (Nat.le_of_ble_eq_true rfl) dL_law_1005 ⟨r1, r2⟩) (fun r_1005 ad2 ct2 H locs hp X => ?_)
    obtain ⟨rfl, ha_, hb_⟩ := hp
    rw [← ha_, hb_] at X
    refine lv_iload hx hb dL_law_1008 (lv_at hl 1 rfl) ?_
    refine lv_icmp_eq (tgt := 1015) hx hb dL_law_1010 (by decide) (fun c_1010 => ?_) (fun c_1010 => ?_)
    · refine lv_iload hx hb dL_law_1015 (lv_at hl 1 rfl) ?_
      refine lv_if_ne (tgt := 1032) hx hb dL_law_1017 (by decide) (fun c_1017 => ?_) (fun c_1017 => ?_)
      · exact absurd hC c_1017
      · refine lv_aload_n hx hb dL_law_1020 rfl (lv_at hl 6 rfl) ?_
        refine lv_iconst (v := 0) hx hb dL_law_1021 (by decide) ?_
        refine k_lld (ad := ad1) (k := 18) (i := 0) Z X ct_18 (by unfold vp_in; decide) dL_law_1022 ?_
        refine lv_iload hx hb dL_law_1023 (lv_at hl 0 rfl) ?_
        refine lv_i2l (v := (S.1 0 0 + (xs (i + 1))).toInt64) hx hb dL_law_1025 rfl ?_
        refine W.lcmp hx hb dL_law_1026 ?_
        refine lv_topi (fun x_1026 e_1026 => ?_)
        obtain rfl : x_1026 = 0 := e_1026.trans (lg_self _)
        refine lv_if_eq (tgt := 1032) hx hb dL_law_1027 (by decide) (fun c_1027 => ?_) (fun c_1027 => ?_)
        · refine lv_goto (tgt := 1522) hx hb dL_law_1032 (by decide) ?_
          exact K _ _ _ _ _ _ _ hT1 X (lv_sub hl [2, 3, 4, 5, 6] rfl)
        · exact absurd c_1027 (by decide)
    · exact absurd (h24.trans hC.symm) c_1010
  · have hCe : cPass (xs (i + 1)) = cPass (xs (i + 1)) := rfl
    have hCT : ¬ cPass (xs (i + 1)) = 0 := fun z => hC (hCe.trans z)
    refine lv_istore (lv' := [(5, .int (cPass (xs (i + 1)))), (4, .int (nI i)), (0, .ref b), (1, .ref (ad1 0 0)), (2, .ref (ad1 16 0)), (3, .ref (ad1 18 0))]) hx hb dL_law_990 hl (by decide) rfl (fun ls hl => ?_)
    refine lv_aload_n hx hb dL_law_992 rfl (lv_at hl 4 rfl) ?_
    refine lv_aload_n hx hb dL_law_993 rfl (lv_at hl 2 rfl) ?_
    refine lv_iload hx hb dL_law_994 (lv_at hl 1 rfl) ?_
    refine lv_iconst (v := 1) hx hb dL_law_996 (by decide) ?_
    refine lv_iadd hx hb dL_law_997 ?_
    refine lv_topi (fun x_997 e_997 => ?_)
    obtain rfl : x_997 = nI (i + 1) := e_997.trans (nI_1 _)
    refine va_sld hx hb hX hbl (Nat.not_le.mpr hbl) X.2 (vp_in_nI (show i + 1 < L by omega) (by omega)) dL_law_998 ?_
    refine lv_topi (fun x_998 e_998 => ?_)
    obtain rfl : x_998 = xs (i + 1) := e_998.trans (by rw [nI_clamp (by omega)])
    refine k_Ri X (k_runV (As := [.int (xs (i + 1))]) (rest := []) Z X (c_X8_pass l s G S T o ad1 (xs (i + 1)) (okN_e hEq hS) ) (k_cwV 1 Z.1.2.2.2.2 (inU_32 _ (List.mem_of_getElem? (i := 12) rfl)) (inU_32 _ (List.mem_of_getElem? (i := 13) rfl)) (inU_32 _ (List.mem_of_getElem? (i := 14) rfl)) (inU_1 _ (List.mem_of_getElem? (i := 5) rfl)) (inU_32 _ (List.mem_of_getElem? (i := 15) rfl)) rfl rfl (by decide +kernel) ⟨Nat.le_of_ble_eq_true rfl, Nat.le_of_ble_eq_true rfl⟩) (k_recv Z X ct_16 rfl) rfl hl.1 rfl (Nat.le_of_ble_eq_true rfl) dL_law_999 ⟨r1, r2⟩) (fun r_999 ad2 ct2 H locs hp X => ?_)
    obtain ⟨hv, ha_, hb_⟩ := hp
    rw [if_neg hCT] at hb_
    rw [← ha_, hb_] at X
    refine lv_istore (lv' := [(6, .int r_999), (5, .int (cPass (xs (i + 1)))), (4, .int (nI i)), (0, .ref b), (1, .ref (ad1 0 0)), (2, .ref (ad1 16 0)), (3, .ref (ad1 18 0))]) hx hb dL_law_1002 hl (by decide) rfl (fun ls hl => ?_)
    refine lv_aload_n hx hb dL_law_1004 rfl (lv_at hl 5 rfl) ?_
    refine k_Ri X (k_runV (As := []) (rest := []) Z X (c_X8_thrown l s G S (sI T 24 0 (cPass (xs (i + 1)))) o ad1) (k_cwV 0 Z.1.2.2.2.2 (inU_9 _ (List.mem_of_getElem? (i := 7) rfl)) (inU_9 _ (List.mem_of_getElem? (i := 8) rfl)) (inU_9 _ (List.mem_of_getElem? (i := 9) rfl)) (inU_1 _ (List.mem_of_getElem? (i := 5) rfl)) (inU_9 _ (List.mem_of_getElem? (i := 10) rfl)) rfl rfl (by decide +kernel) ⟨Nat.le_of_ble_eq_true rfl, Nat.le_of_ble_eq_true rfl⟩) (k_recv Z X ct_16 rfl) rfl hl.1 rfl (Nat.le_of_ble_eq_true rfl) dL_law_1005 ⟨r1, r2⟩) (fun r_1005 ad2 ct2 H locs hp X => ?_)
    obtain ⟨rfl, ha_, hb_⟩ := hp
    rw [← ha_, hb_] at X
    refine lv_iload hx hb dL_law_1008 (lv_at hl 1 rfl) ?_
    refine lv_icmp_eq (tgt := 1015) hx hb dL_law_1010 (by decide) (fun c_1010 => ?_) (fun c_1010 => ?_)
    · refine lv_iload hx hb dL_law_1015 (lv_at hl 1 rfl) ?_
      refine lv_if_ne (tgt := 1032) hx hb dL_law_1017 (by decide) (fun c_1017 => ?_) (fun c_1017 => ?_)
      · refine lv_goto (tgt := 1522) hx hb dL_law_1032 (by decide) ?_
        exact K _ _ _ _ _ _ _ ((hTie.t24 _).up (Nat.le_succ n)) X (lv_sub hl [2, 3, 4, 5, 6] rfl)
      · exact absurd c_1017 hC
    · exact absurd (sI_s.trans hCe.symm) c_1010
set_option maxHeartbeats 1000000 in
set_option maxRecDepth 100000 in
theorem a_messageOf (hE : kE l s G) (Z : kZ p m c code 7 s #[Value.ref b] wsL_law RL s G) (hX : va_X b L xs s s.heap) (hbl : b < s.heap.size) (hTie : Tie n S T) (hn : n < 512) (X : kX s G s H locs ad (cto G S T o ad)) (hl : lv_has ls 7 (lwLv b i ad)) (hi : i + 5 ≤ L) (hL9 : L ≤ 2560) (r1 : cells + 20 ≤ room_1.cells) (r2 : slots + 400 ≤ room_1.slots) (K : lwK p l e s m below meth c G b i (n + 1) (cells + 20) (slots + 400) Q) : W p l e room_1 s m #[Value.ref b] below meth c H locs cells slots Q (F0 m 1035 ls []) := by
  have hx := Z.1.1
  have hb := Z.1.2.1
  have hl : lv_has ls 7 [(4, .int (nI i)), (0, .ref b), (1, .ref (ad 0 0)), (2, .ref (ad 16 0)), (3, .ref (ad 18 0))] := hl
  obtain ⟨⟨hEq, hKd, hS, hLk, hM, hG9, hc9, hV, hB, hM22⟩, hSe⟩ := id hTie
  refine lv_aload_n hx hb dL_law_1035 rfl (lv_at hl 2 rfl) ?_
  refine lv_aload_n hx hb dL_law_1036 rfl (lv_at hl 1 rfl) ?_
  refine lv_iload hx hb dL_law_1037 (lv_at hl 0 rfl) ?_
  refine lv_iconst (v := 1) hx hb dL_law_1039 (by decide) ?_
  refine lv_iadd hx hb dL_law_1040 ?_
  refine lv_topi (fun x_1040 e_1040 => ?_)
  obtain rfl : x_1040 = nI (i + 1) := e_1040.trans (nI_1 _)
  refine va_sld hx hb hX hbl (Nat.not_le.mpr hbl) X.2 (vp_in_nI (show i + 1 < L by omega) (by omega)) dL_law_1041 ?_
  refine lv_topi (fun x_1041 e_1041 => ?_)
  obtain rfl : x_1041 = xs (i + 1) := e_1041.trans (by rw [nI_clamp (by omega)])
  refine lv_aload_n hx hb dL_law_1042 rfl (lv_at hl 1 rfl) ?_
  refine lv_iload hx hb dL_law_1043 (lv_at hl 0 rfl) ?_
  refine lv_iconst (v := 2) hx hb dL_law_1045 (by decide) ?_
  refine lv_iadd hx hb dL_law_1046 ?_
  refine lv_topi (fun x_1046 e_1046 => ?_)
  obtain rfl : x_1046 = nI (i + 2) := e_1046.trans (nI_add _ 2)
  refine va_sld hx hb hX hbl (Nat.not_le.mpr hbl) X.2 (vp_in_nI (show i + 2 < L by omega) (by omega)) dL_law_1047 ?_
  refine lv_topi (fun x_1047 e_1047 => ?_)
  obtain rfl : x_1047 = xs (i + 2) := e_1047.trans (by rw [nI_clamp (by omega)])
  refine lv_aload_n hx hb dL_law_1048 rfl (lv_at hl 4 rfl) ?_
  refine k_xRi X (k_xrunSW (As := [.ref (ad 0 0), .int (xs (i + 1)), .int (xs (i + 2)), .ref (ad 18 0)]) (rest := []) Z X (c_L_messageOf l s G S T o ad (xs (i + 1)) (xs (i + 2)) hE hS hLk) (k_cwSW 4 Z.1.2.2.2.2 (inU_32 _ (List.mem_of_getElem? (i := 16) rfl)) (inU_32 _ (List.mem_of_getElem? (i := 17) rfl)) (inU_7 _ (List.mem_of_getElem? (i := 7) rfl)) (inU_32 _ (List.mem_of_getElem? (i := 18) rfl)) rfl rfl (by decide +kernel) ⟨(Nat.le_of_ble_eq_true rfl), (Nat.le_of_ble_eq_true rfl)⟩) rfl hl.1 rfl (Nat.le_of_ble_eq_true rfl) dL_law_1049 ⟨r1, r2⟩) (fun _ _ _ _ _ _ _ hp => hp.elim) (fun r_1049 ad1 ct1 H locs hp X => ?_)
  obtain ⟨rfl, hAK, hq⟩ := hp
  rw [← hAK.1, ← hAK.2.1, ← hAK.2.2] at hl
  rcases hq with ⟨hC, S1, hR1, rfl⟩ | ⟨hC, rfl⟩
  · have hCe : cMsgOf S (xs (i + 1)) (xs (i + 2)) = cMsgOf T (xs (i + 1)) (xs (i + 2)) := cMsgOf_e hEq (xs (i + 1)) (xs (i + 2))
    have hR1 : S1 = S := hR1
    rw [hR1] at X
    have hCT : cMsgOf T (xs (i + 1)) (xs (i + 2)) = 0 := hCe.symm.trans hC
    have hT1 := (hTie.t24 0).up (Nat.le_succ n)
    have h24 : (sI T 24 0 0).1 24 0 = 0 := sI_s
    have hval := t_msgOf hTie (xs (i + 1)) (xs (i + 2)) hC
    refine lv_istore (lv' := [(5, .int (cMsgOf S (xs (i + 1)) (xs (i + 2)))), (4, .int (nI i)), (0, .ref b), (1, .ref (ad1 0 0)), (2, .ref (ad1 16 0)), (3, .ref (ad1 18 0))]) hx hb dL_law_1052 hl (by decide) rfl (fun ls hl => ?_)
    refine lv_aload_n hx hb dL_law_1054 rfl (lv_at hl 4 rfl) ?_
    refine lv_aload_n hx hb dL_law_1055 rfl (lv_at hl 2 rfl) ?_
    refine lv_iload hx hb dL_law_1056 (lv_at hl 1 rfl) ?_
    refine lv_iconst (v := 1) hx hb dL_law_1058 (by decide) ?_
    refine lv_iadd hx hb dL_law_1059 ?_
    refine lv_topi (fun x_1059 e_1059 => ?_)
    obtain rfl : x_1059 = nI (i + 1) := e_1059.trans (nI_1 _)
    refine va_sld hx hb hX hbl (Nat.not_le.mpr hbl) X.2 (vp_in_nI (show i + 1 < L by omega) (by omega)) dL_law_1060 ?_
    refine lv_topi (fun x_1060 e_1060 => ?_)
    obtain rfl : x_1060 = xs (i + 1) := e_1060.trans (by rw [nI_clamp (by omega)])
    refine lv_aload_n hx hb dL_law_1061 rfl (lv_at hl 2 rfl) ?_
    refine lv_iload hx hb dL_law_1062 (lv_at hl 1 rfl) ?_
    refine lv_iconst (v := 2) hx hb dL_law_1064 (by decide) ?_
    refine lv_iadd hx hb dL_law_1065 ?_
    refine lv_topi (fun x_1065 e_1065 => ?_)
    obtain rfl : x_1065 = nI (i + 2) := e_1065.trans (nI_add _ 2)
    refine va_sld hx hb hX hbl (Nat.not_le.mpr hbl) X.2 (vp_in_nI (show i + 2 < L by omega) (by omega)) dL_law_1066 ?_
    refine lv_topi (fun x_1066 e_1066 => ?_)
    obtain rfl : x_1066 = xs (i + 2) := e_1066.trans (by rw [nI_clamp (by omega)])
    refine k_Ri X (k_runV (As := [.int (xs (i + 1)), .int (xs (i + 2))]) (rest := []) Z X (c_X8_messageOf l s G S T ((rMsgOf S (kdS S) (xs (i + 1)) (xs (i + 2))).toInt64) ad1 (xs (i + 1)) (xs (i + 2)) (okN_e hEq hS) (fun j _ => by rw [← hEq.i (f := 8)]; exact hV.2.1 j)) (k_cwV 2 Z.1.2.2.2.2 (inU_32 _ (List.mem_of_getElem? (i := 23) rfl)) (inU_33 _ (List.mem_of_getElem? (i := 0) rfl)) (inU_33 _ (List.mem_of_getElem? (i := 1) rfl)) (inU_1 _ (List.mem_of_getElem? (i := 5) rfl)) (inU_33 _ (List.mem_of_getElem? (i := 2) rfl)) rfl rfl (by decide +kernel) ⟨Nat.le_of_ble_eq_true rfl, Nat.le_of_ble_eq_true rfl⟩) (k_recv Z X ct_16 rfl) rfl hl.1 rfl (Nat.le_of_ble_eq_true rfl) dL_law_1067 ⟨r1, r2⟩) (fun r_1067 ad2 ct2 H locs hp X => ?_)
    obtain ⟨hv, ha_, hb_⟩ := hp
    rw [if_pos hCT] at hb_
    rw [← ha_, hb_] at X
    have hv2 : r_1067 = rMsgOf S (kdS S) (xs (i + 1)) (xs (i + 2)) := (hv hCT).trans hval.symm
    subst hv2
    refine lv_istore (lv' := [(6, .int (rMsgOf S (kdS S) (xs (i + 1)) (xs (i + 2)))), (5, .int (cMsgOf S (xs (i + 1)) (xs (i + 2)))), (4, .int (nI i)), (0, .ref b), (1, .ref (ad1 0 0)), (2, .ref (ad1 16 0)), (3, .ref (ad1 18 0))]) hx hb dL_law_1070 hl (by decide) rfl (fun ls hl => ?_)
    refine lv_aload_n hx hb dL_law_1072 rfl (lv_at hl 5 rfl) ?_
    refine k_Ri X (k_runV (As := []) (rest := []) Z X (c_X8_thrown l s G S (sI T 24 0 0) ((rMsgOf S (kdS S) (xs (i + 1)) (xs (i + 2))).toInt64) ad1) (k_cwV 0 Z.1.2.2.2.2 (inU_9 _ (List.mem_of_getElem? (i := 7) rfl)) (inU_9 _ (List.mem_of_getElem? (i := 8) rfl)) (inU_9 _ (List.mem_of_getElem? (i := 9) rfl)) (inU_1 _ (List.mem_of_getElem? (i := 5) rfl)) (inU_9 _ (List.mem_of_getElem? (i := 10) rfl)) rfl rfl (by decide +kernel) ⟨Nat.le_of_ble_eq_true rfl, Nat.le_of_ble_eq_true rfl⟩) (k_recv Z X ct_16 rfl) rfl hl.1 rfl (Nat.le_of_ble_eq_true rfl) dL_law_1073 ⟨r1, r2⟩) (fun r_1073 ad2 ct2 H locs hp X => ?_)
    obtain ⟨rfl, ha_, hb_⟩ := hp
    rw [← ha_, hb_] at X
    refine lv_iload hx hb dL_law_1076 (lv_at hl 1 rfl) ?_
    refine lv_icmp_eq (tgt := 1083) hx hb dL_law_1078 (by decide) (fun c_1078 => ?_) (fun c_1078 => ?_)
    · refine lv_iload hx hb dL_law_1083 (lv_at hl 1 rfl) ?_
      refine lv_if_ne (tgt := 1100) hx hb dL_law_1085 (by decide) (fun c_1085 => ?_) (fun c_1085 => ?_)
      · exact absurd hC c_1085
      · refine lv_aload_n hx hb dL_law_1088 rfl (lv_at hl 6 rfl) ?_
        refine lv_iconst (v := 0) hx hb dL_law_1089 (by decide) ?_
        refine k_lld (ad := ad1) (k := 18) (i := 0) Z X ct_18 (by unfold vp_in; decide) dL_law_1090 ?_
        refine lv_iload hx hb dL_law_1091 (lv_at hl 0 rfl) ?_
        refine lv_i2l (v := (rMsgOf S (kdS S) (xs (i + 1)) (xs (i + 2))).toInt64) hx hb dL_law_1093 rfl ?_
        refine W.lcmp hx hb dL_law_1094 ?_
        refine lv_topi (fun x_1094 e_1094 => ?_)
        obtain rfl : x_1094 = 0 := e_1094.trans (lg_self _)
        refine lv_if_eq (tgt := 1100) hx hb dL_law_1095 (by decide) (fun c_1095 => ?_) (fun c_1095 => ?_)
        · refine lv_goto (tgt := 1522) hx hb dL_law_1100 (by decide) ?_
          exact K _ _ _ _ _ _ _ hT1 X (lv_sub hl [2, 3, 4, 5, 6] rfl)
        · exact absurd c_1095 (by decide)
    · exact absurd (h24.trans hC.symm) c_1078
  · have hCe : cMsgOf S (xs (i + 1)) (xs (i + 2)) = cMsgOf T (xs (i + 1)) (xs (i + 2)) := cMsgOf_e hEq (xs (i + 1)) (xs (i + 2))
    have hCT : ¬ cMsgOf T (xs (i + 1)) (xs (i + 2)) = 0 := fun z => hC (hCe.trans z)
    refine lv_istore (lv' := [(5, .int (cMsgOf S (xs (i + 1)) (xs (i + 2)))), (4, .int (nI i)), (0, .ref b), (1, .ref (ad1 0 0)), (2, .ref (ad1 16 0)), (3, .ref (ad1 18 0))]) hx hb dL_law_1052 hl (by decide) rfl (fun ls hl => ?_)
    refine lv_aload_n hx hb dL_law_1054 rfl (lv_at hl 4 rfl) ?_
    refine lv_aload_n hx hb dL_law_1055 rfl (lv_at hl 2 rfl) ?_
    refine lv_iload hx hb dL_law_1056 (lv_at hl 1 rfl) ?_
    refine lv_iconst (v := 1) hx hb dL_law_1058 (by decide) ?_
    refine lv_iadd hx hb dL_law_1059 ?_
    refine lv_topi (fun x_1059 e_1059 => ?_)
    obtain rfl : x_1059 = nI (i + 1) := e_1059.trans (nI_1 _)
    refine va_sld hx hb hX hbl (Nat.not_le.mpr hbl) X.2 (vp_in_nI (show i + 1 < L by omega) (by omega)) dL_law_1060 ?_
    refine lv_topi (fun x_1060 e_1060 => ?_)
    obtain rfl : x_1060 = xs (i + 1) := e_1060.trans (by rw [nI_clamp (by omega)])
    refine lv_aload_n hx hb dL_law_1061 rfl (lv_at hl 2 rfl) ?_
    refine lv_iload hx hb dL_law_1062 (lv_at hl 1 rfl) ?_
    refine lv_iconst (v := 2) hx hb dL_law_1064 (by decide) ?_
    refine lv_iadd hx hb dL_law_1065 ?_
    refine lv_topi (fun x_1065 e_1065 => ?_)
    obtain rfl : x_1065 = nI (i + 2) := e_1065.trans (nI_add _ 2)
    refine va_sld hx hb hX hbl (Nat.not_le.mpr hbl) X.2 (vp_in_nI (show i + 2 < L by omega) (by omega)) dL_law_1066 ?_
    refine lv_topi (fun x_1066 e_1066 => ?_)
    obtain rfl : x_1066 = xs (i + 2) := e_1066.trans (by rw [nI_clamp (by omega)])
    refine k_Ri X (k_runV (As := [.int (xs (i + 1)), .int (xs (i + 2))]) (rest := []) Z X (c_X8_messageOf l s G S T o ad1 (xs (i + 1)) (xs (i + 2)) (okN_e hEq hS) (fun j _ => by rw [← hEq.i (f := 8)]; exact hV.2.1 j)) (k_cwV 2 Z.1.2.2.2.2 (inU_32 _ (List.mem_of_getElem? (i := 23) rfl)) (inU_33 _ (List.mem_of_getElem? (i := 0) rfl)) (inU_33 _ (List.mem_of_getElem? (i := 1) rfl)) (inU_1 _ (List.mem_of_getElem? (i := 5) rfl)) (inU_33 _ (List.mem_of_getElem? (i := 2) rfl)) rfl rfl (by decide +kernel) ⟨Nat.le_of_ble_eq_true rfl, Nat.le_of_ble_eq_true rfl⟩) (k_recv Z X ct_16 rfl) rfl hl.1 rfl (Nat.le_of_ble_eq_true rfl) dL_law_1067 ⟨r1, r2⟩) (fun r_1067 ad2 ct2 H locs hp X => ?_)
    obtain ⟨hv, ha_, hb_⟩ := hp
    rw [if_neg hCT] at hb_
    rw [← ha_, hb_] at X
    refine lv_istore (lv' := [(6, .int r_1067), (5, .int (cMsgOf S (xs (i + 1)) (xs (i + 2)))), (4, .int (nI i)), (0, .ref b), (1, .ref (ad1 0 0)), (2, .ref (ad1 16 0)), (3, .ref (ad1 18 0))]) hx hb dL_law_1070 hl (by decide) rfl (fun ls hl => ?_)
    refine lv_aload_n hx hb dL_law_1072 rfl (lv_at hl 5 rfl) ?_
    refine k_Ri X (k_runV (As := []) (rest := []) Z X (c_X8_thrown l s G S (sI T 24 0 (cMsgOf T (xs (i + 1)) (xs (i + 2)))) o ad1) (k_cwV 0 Z.1.2.2.2.2 (inU_9 _ (List.mem_of_getElem? (i := 7) rfl)) (inU_9 _ (List.mem_of_getElem? (i := 8) rfl)) (inU_9 _ (List.mem_of_getElem? (i := 9) rfl)) (inU_1 _ (List.mem_of_getElem? (i := 5) rfl)) (inU_9 _ (List.mem_of_getElem? (i := 10) rfl)) rfl rfl (by decide +kernel) ⟨Nat.le_of_ble_eq_true rfl, Nat.le_of_ble_eq_true rfl⟩) (k_recv Z X ct_16 rfl) rfl hl.1 rfl (Nat.le_of_ble_eq_true rfl) dL_law_1073 ⟨r1, r2⟩) (fun r_1073 ad2 ct2 H locs hp X => ?_)
    obtain ⟨rfl, ha_, hb_⟩ := hp
    rw [← ha_, hb_] at X
    refine lv_iload hx hb dL_law_1076 (lv_at hl 1 rfl) ?_
    refine lv_icmp_eq (tgt := 1083) hx hb dL_law_1078 (by decide) (fun c_1078 => ?_) (fun c_1078 => ?_)
    · refine lv_iload hx hb dL_law_1083 (lv_at hl 1 rfl) ?_
      refine lv_if_ne (tgt := 1100) hx hb dL_law_1085 (by decide) (fun c_1085 => ?_) (fun c_1085 => ?_)
      · refine lv_goto (tgt := 1522) hx hb dL_law_1100 (by decide) ?_
        exact K _ _ _ _ _ _ _ ((hTie.t24 _).up (Nat.le_succ n)) X (lv_sub hl [2, 3, 4, 5, 6] rfl)
      · exact absurd c_1085 hC
    · exact absurd (sI_s.trans hCe.symm) c_1078
set_option maxHeartbeats 1000000 in
set_option maxRecDepth 100000 in
theorem a_isApproved (hE : kE l s G) (Z : kZ p m c code 7 s #[Value.ref b] wsL_law RL s G) (hX : va_X b L xs s s.heap) (hbl : b < s.heap.size) (hTie : Tie n S T) (hn : n < 512) (X : kX s G s H locs ad (cto G S T o ad)) (hl : lv_has ls 7 (lwLv b i ad)) (hi : i + 5 ≤ L) (hL9 : L ≤ 2560) (r1 : cells + 20 ≤ room_1.cells) (r2 : slots + 400 ≤ room_1.slots) (K : lwK p l e s m below meth c G b i (n + 1) (cells + 20) (slots + 400) Q) : W p l e room_1 s m #[Value.ref b] below meth c H locs cells slots Q (F0 m 1103 ls []) := by
  have hx := Z.1.1
  have hb := Z.1.2.1
  have hl : lv_has ls 7 [(4, .int (nI i)), (0, .ref b), (1, .ref (ad 0 0)), (2, .ref (ad 16 0)), (3, .ref (ad 18 0))] := hl
  obtain ⟨⟨hEq, hKd, hS, hLk, hM, hG9, hc9, hV, hB, hM22⟩, hSe⟩ := id hTie
  refine lv_aload_n hx hb dL_law_1103 rfl (lv_at hl 2 rfl) ?_
  refine lv_aload_n hx hb dL_law_1104 rfl (lv_at hl 1 rfl) ?_
  refine lv_iload hx hb dL_law_1105 (lv_at hl 0 rfl) ?_
  refine lv_iconst (v := 1) hx hb dL_law_1107 (by decide) ?_
  refine lv_iadd hx hb dL_law_1108 ?_
  refine lv_topi (fun x_1108 e_1108 => ?_)
  obtain rfl : x_1108 = nI (i + 1) := e_1108.trans (nI_1 _)
  refine va_sld hx hb hX hbl (Nat.not_le.mpr hbl) X.2 (vp_in_nI (show i + 1 < L by omega) (by omega)) dL_law_1109 ?_
  refine lv_topi (fun x_1109 e_1109 => ?_)
  obtain rfl : x_1109 = xs (i + 1) := e_1109.trans (by rw [nI_clamp (by omega)])
  refine lv_aload_n hx hb dL_law_1110 rfl (lv_at hl 1 rfl) ?_
  refine lv_iload hx hb dL_law_1111 (lv_at hl 0 rfl) ?_
  refine lv_iconst (v := 2) hx hb dL_law_1113 (by decide) ?_
  refine lv_iadd hx hb dL_law_1114 ?_
  refine lv_topi (fun x_1114 e_1114 => ?_)
  obtain rfl : x_1114 = nI (i + 2) := e_1114.trans (nI_add _ 2)
  refine va_sld hx hb hX hbl (Nat.not_le.mpr hbl) X.2 (vp_in_nI (show i + 2 < L by omega) (by omega)) dL_law_1115 ?_
  refine lv_topi (fun x_1115 e_1115 => ?_)
  obtain rfl : x_1115 = xs (i + 2) := e_1115.trans (by rw [nI_clamp (by omega)])
  refine lv_aload_n hx hb dL_law_1116 rfl (lv_at hl 1 rfl) ?_
  refine lv_iload hx hb dL_law_1117 (lv_at hl 0 rfl) ?_
  refine lv_iconst (v := 3) hx hb dL_law_1119 (by decide) ?_
  refine lv_iadd hx hb dL_law_1120 ?_
  refine lv_topi (fun x_1120 e_1120 => ?_)
  obtain rfl : x_1120 = nI (i + 3) := e_1120.trans (nI_add _ 3)
  refine va_sld hx hb hX hbl (Nat.not_le.mpr hbl) X.2 (vp_in_nI (show i + 3 < L by omega) (by omega)) dL_law_1121 ?_
  refine lv_topi (fun x_1121 e_1121 => ?_)
  obtain rfl : x_1121 = xs (i + 3) := e_1121.trans (by rw [nI_clamp (by omega)])
  refine lv_if_eq (tgt := 1129) hx hb dL_law_1122 (by decide) (fun c_1122 => ?_) (fun c_1122 => ?_)
  · refine lv_iconst (v := 0) hx hb dL_law_1129 (by decide) ?_
    refine lv_aload_n hx hb dL_law_1130 rfl (lv_at hl 4 rfl) ?_
    refine k_xRi X (k_xrunSW (As := [.ref (ad 0 0), .int (xs (i + 1)), .int (xs (i + 2)), .int 0, .ref (ad 18 0)]) (rest := []) Z X (c_L_isApproved l s G S T o ad (xs (i + 1)) (xs (i + 2)) 0 hE hS hLk (fun a u ha hu => (hM a u ha hu).1) hG9.1 (fun a ha u hu => hG9.2.2 _ a u ha hu)) (k_cwSW 5 Z.1.2.2.2.2 (inU_33 _ (List.mem_of_getElem? (i := 3) rfl)) (inU_33 _ (List.mem_of_getElem? (i := 4) rfl)) (inU_7 _ (List.mem_of_getElem? (i := 7) rfl)) (inU_33 _ (List.mem_of_getElem? (i := 5) rfl)) rfl rfl (by decide +kernel) ⟨(Nat.le_of_ble_eq_true rfl), (Nat.le_of_ble_eq_true rfl)⟩) rfl hl.1 rfl (Nat.le_of_ble_eq_true rfl) dL_law_1131 ⟨r1, r2⟩) (fun _ _ _ _ _ _ _ hp => hp.elim) (fun r_1131 ad1 ct1 H locs hp X => ?_)
    obtain ⟨rfl, hAK, hq⟩ := hp
    rw [← hAK.1, ← hAK.2.1, ← hAK.2.2] at hl
    rcases hq with ⟨hC, S1, hR1, rfl⟩ | ⟨hC, rfl⟩
    · have hCe : cAppr S (xs (i + 1)) (xs (i + 2)) = cAppr T (xs (i + 1)) (xs (i + 2)) := cAppr_e hEq (xs (i + 1)) (xs (i + 2))
      have hR1 : S1 = oAprC S (xs (i + 1)) 0 := hR1
      rw [hR1] at X
      have hCT : cAppr T (xs (i + 1)) (xs (i + 2)) = 0 := hCe.symm.trans hC
      obtain ⟨hT1, hval⟩ := t_appr hTie (xs (i + 1)) (xs (i + 2)) 0 hC
      have h24 : (sI T 24 0 0).1 24 0 = 0 := sI_s
      refine lv_istore (lv' := [(5, .int (cAppr S (xs (i + 1)) (xs (i + 2)))), (4, .int (nI i)), (0, .ref b), (1, .ref (ad1 0 0)), (2, .ref (ad1 16 0)), (3, .ref (ad1 18 0))]) hx hb dL_law_1134 hl (by decide) rfl (fun ls hl => ?_)
      refine lv_aload_n hx hb dL_law_1136 rfl (lv_at hl 4 rfl) ?_
      refine lv_aload_n hx hb dL_law_1137 rfl (lv_at hl 2 rfl) ?_
      refine lv_iload hx hb dL_law_1138 (lv_at hl 1 rfl) ?_
      refine lv_iconst (v := 1) hx hb dL_law_1140 (by decide) ?_
      refine lv_iadd hx hb dL_law_1141 ?_
      refine lv_topi (fun x_1141 e_1141 => ?_)
      obtain rfl : x_1141 = nI (i + 1) := e_1141.trans (nI_1 _)
      refine va_sld hx hb hX hbl (Nat.not_le.mpr hbl) X.2 (vp_in_nI (show i + 1 < L by omega) (by omega)) dL_law_1142 ?_
      refine lv_topi (fun x_1142 e_1142 => ?_)
      obtain rfl : x_1142 = xs (i + 1) := e_1142.trans (by rw [nI_clamp (by omega)])
      refine lv_aload_n hx hb dL_law_1143 rfl (lv_at hl 2 rfl) ?_
      refine lv_iload hx hb dL_law_1144 (lv_at hl 1 rfl) ?_
      refine lv_iconst (v := 2) hx hb dL_law_1146 (by decide) ?_
      refine lv_iadd hx hb dL_law_1147 ?_
      refine lv_topi (fun x_1147 e_1147 => ?_)
      obtain rfl : x_1147 = nI (i + 2) := e_1147.trans (nI_add _ 2)
      refine va_sld hx hb hX hbl (Nat.not_le.mpr hbl) X.2 (vp_in_nI (show i + 2 < L by omega) (by omega)) dL_law_1148 ?_
      refine lv_topi (fun x_1148 e_1148 => ?_)
      obtain rfl : x_1148 = xs (i + 2) := e_1148.trans (by rw [nI_clamp (by omega)])
      refine lv_aload_n hx hb dL_law_1149 rfl (lv_at hl 2 rfl) ?_
      refine lv_iload hx hb dL_law_1150 (lv_at hl 1 rfl) ?_
      refine lv_iconst (v := 3) hx hb dL_law_1152 (by decide) ?_
      refine lv_iadd hx hb dL_law_1153 ?_
      refine lv_topi (fun x_1153 e_1153 => ?_)
      obtain rfl : x_1153 = nI (i + 3) := e_1153.trans (nI_add _ 3)
      refine va_sld hx hb hX hbl (Nat.not_le.mpr hbl) X.2 (vp_in_nI (show i + 3 < L by omega) (by omega)) dL_law_1154 ?_
      refine lv_topi (fun x_1154 e_1154 => ?_)
      obtain rfl : x_1154 = xs (i + 3) := e_1154.trans (by rw [nI_clamp (by omega)])
      refine lv_if_eq (tgt := 1162) hx hb dL_law_1155 (by decide) (fun c_1155 => ?_) (fun c_1155 => ?_)
      · refine lv_iconst (v := 0) hx hb dL_law_1162 (by decide) ?_
        refine k_Ri X (k_runV (As := [.int (xs (i + 1)), .int (xs (i + 2)), .int 0]) (rest := []) Z X (c_X8_isApproved l s G (oAprC S (xs (i + 1)) 0) T ((bI (rAprC S (xs (i + 1)) (xs (i + 2)) 0)).toInt64) ad1 (xs (i + 1)) (xs (i + 2)) 0 (okN_e hEq hS) ) (k_cwV 3 Z.1.2.2.2.2 (inU_33 _ (List.mem_of_getElem? (i := 16) rfl)) (inU_33 _ (List.mem_of_getElem? (i := 17) rfl)) (inU_33 _ (List.mem_of_getElem? (i := 18) rfl)) (inU_1 _ (List.mem_of_getElem? (i := 5) rfl)) (inU_33 _ (List.mem_of_getElem? (i := 19) rfl)) rfl rfl (by decide +kernel) ⟨Nat.le_of_ble_eq_true rfl, Nat.le_of_ble_eq_true rfl⟩) (k_recv Z X ct_16 rfl) rfl hl.1 rfl (Nat.le_of_ble_eq_true rfl) dL_law_1163 ⟨r1, r2⟩) (fun r_1163 ad2 ct2 H locs hp X => ?_)
        obtain ⟨hv, ha_, hb_⟩ := hp
        rw [if_pos hCT] at hb_
        rw [← ha_, hb_] at X
        have hv2 : r_1163 = bI (rAprC S (xs (i + 1)) (xs (i + 2)) 0) := (hv hCT).trans hval.symm
        subst hv2
        refine lv_istore (lv' := [(6, .int (bI (rAprC S (xs (i + 1)) (xs (i + 2)) 0))), (5, .int (cAppr S (xs (i + 1)) (xs (i + 2)))), (4, .int (nI i)), (0, .ref b), (1, .ref (ad1 0 0)), (2, .ref (ad1 16 0)), (3, .ref (ad1 18 0))]) hx hb dL_law_1166 hl (by decide) rfl (fun ls hl => ?_)
        refine lv_aload_n hx hb dL_law_1168 rfl (lv_at hl 5 rfl) ?_
        refine k_Ri X (k_runV (As := []) (rest := []) Z X (c_X8_thrown l s G (oAprC S (xs (i + 1)) 0) (sI T 24 0 0) ((bI (rAprC S (xs (i + 1)) (xs (i + 2)) 0)).toInt64) ad1) (k_cwV 0 Z.1.2.2.2.2 (inU_9 _ (List.mem_of_getElem? (i := 7) rfl)) (inU_9 _ (List.mem_of_getElem? (i := 8) rfl)) (inU_9 _ (List.mem_of_getElem? (i := 9) rfl)) (inU_1 _ (List.mem_of_getElem? (i := 5) rfl)) (inU_9 _ (List.mem_of_getElem? (i := 10) rfl)) rfl rfl (by decide +kernel) ⟨Nat.le_of_ble_eq_true rfl, Nat.le_of_ble_eq_true rfl⟩) (k_recv Z X ct_16 rfl) rfl hl.1 rfl (Nat.le_of_ble_eq_true rfl) dL_law_1169 ⟨r1, r2⟩) (fun r_1169 ad2 ct2 H locs hp X => ?_)
        obtain ⟨rfl, ha_, hb_⟩ := hp
        rw [← ha_, hb_] at X
        refine lv_iload hx hb dL_law_1172 (lv_at hl 1 rfl) ?_
        refine lv_icmp_eq (tgt := 1179) hx hb dL_law_1174 (by decide) (fun c_1174 => ?_) (fun c_1174 => ?_)
        · refine lv_iload hx hb dL_law_1179 (lv_at hl 1 rfl) ?_
          refine lv_if_ne (tgt := 1203) hx hb dL_law_1181 (by decide) (fun c_1181 => ?_) (fun c_1181 => ?_)
          · exact absurd hC c_1181
          · refine lv_aload_n hx hb dL_law_1184 rfl (lv_at hl 6 rfl) ?_
            refine lv_iconst (v := 0) hx hb dL_law_1185 (by decide) ?_
            refine k_lld (ad := ad1) (k := 18) (i := 0) Z X ct_18 (by unfold vp_in; decide) dL_law_1186 ?_
            refine lv_iload hx hb dL_law_1187 (lv_at hl 0 rfl) ?_
            refine lv_if_eq (tgt := 1196) hx hb dL_law_1189 (by decide) (fun c_1189 => ?_) (fun c_1189 => ?_)
            · have cb_ : bI (rAprC S (xs (i + 1)) (xs (i + 2)) 0) = bI false := c_1189
              refine lv_lconst (v := 0) hx hb dL_law_1196 (by decide) ?_
              refine W.lcmp hx hb dL_law_1197 ?_
              refine lv_topi (fun x_1197 e_1197 => ?_)
              have ez : (bI (rAprC S (xs (i + 1)) (xs (i + 2)) 0)).toInt64 = 0 := by rw [cb_]; rfl
              obtain rfl : x_1197 = 0 := e_1197.trans ((congrArg (fun z => lg_cmp z 0) ez).trans (lg_self _))
              refine lv_if_eq (tgt := 1203) hx hb dL_law_1198 (by decide) (fun c_1198 => ?_) (fun c_1198 => ?_)
              · refine lv_goto (tgt := 1522) hx hb dL_law_1203 (by decide) ?_
                exact K _ _ _ _ _ _ _ hT1 X (lv_sub hl [2, 3, 4, 5, 6] rfl)
              · exact absurd c_1198 (by decide)
            · have cb_ : bI (rAprC S (xs (i + 1)) (xs (i + 2)) 0) = bI true := (show bI (rAprC S (xs (i + 1)) (xs (i + 2)) 0) = 0 ∨ bI (rAprC S (xs (i + 1)) (xs (i + 2)) 0) = 1 from bI_01).resolve_left c_1189
              refine lv_lconst (v := 1) hx hb dL_law_1192 (by decide) ?_
              refine lv_goto (tgt := 1197) hx hb dL_law_1193 (by decide) ?_
              refine W.lcmp hx hb dL_law_1197 ?_
              refine lv_topi (fun x_1197 e_1197 => ?_)
              have ez : (bI (rAprC S (xs (i + 1)) (xs (i + 2)) 0)).toInt64 = 1 := by rw [cb_]; rfl
              obtain rfl : x_1197 = 0 := e_1197.trans ((congrArg (fun z => lg_cmp z 1) ez).trans (lg_self _))
              refine lv_if_eq (tgt := 1203) hx hb dL_law_1198 (by decide) (fun c_1198 => ?_) (fun c_1198 => ?_)
              · refine lv_goto (tgt := 1522) hx hb dL_law_1203 (by decide) ?_
                exact K _ _ _ _ _ _ _ hT1 X (lv_sub hl [2, 3, 4, 5, 6] rfl)
              · exact absurd c_1198 (by decide)
        · exact absurd (h24.trans hC.symm) c_1174
      · exact absurd c_1122 c_1155
    · have hCe : cAppr S (xs (i + 1)) (xs (i + 2)) = cAppr T (xs (i + 1)) (xs (i + 2)) := cAppr_e hEq (xs (i + 1)) (xs (i + 2))
      have hCT : ¬ cAppr T (xs (i + 1)) (xs (i + 2)) = 0 := fun z => hC (hCe.trans z)
      refine lv_istore (lv' := [(5, .int (cAppr S (xs (i + 1)) (xs (i + 2)))), (4, .int (nI i)), (0, .ref b), (1, .ref (ad1 0 0)), (2, .ref (ad1 16 0)), (3, .ref (ad1 18 0))]) hx hb dL_law_1134 hl (by decide) rfl (fun ls hl => ?_)
      refine lv_aload_n hx hb dL_law_1136 rfl (lv_at hl 4 rfl) ?_
      refine lv_aload_n hx hb dL_law_1137 rfl (lv_at hl 2 rfl) ?_
      refine lv_iload hx hb dL_law_1138 (lv_at hl 1 rfl) ?_
      refine lv_iconst (v := 1) hx hb dL_law_1140 (by decide) ?_
      refine lv_iadd hx hb dL_law_1141 ?_
      refine lv_topi (fun x_1141 e_1141 => ?_)
      obtain rfl : x_1141 = nI (i + 1) := e_1141.trans (nI_1 _)
      refine va_sld hx hb hX hbl (Nat.not_le.mpr hbl) X.2 (vp_in_nI (show i + 1 < L by omega) (by omega)) dL_law_1142 ?_
      refine lv_topi (fun x_1142 e_1142 => ?_)
      obtain rfl : x_1142 = xs (i + 1) := e_1142.trans (by rw [nI_clamp (by omega)])
      refine lv_aload_n hx hb dL_law_1143 rfl (lv_at hl 2 rfl) ?_
      refine lv_iload hx hb dL_law_1144 (lv_at hl 1 rfl) ?_
      refine lv_iconst (v := 2) hx hb dL_law_1146 (by decide) ?_
      refine lv_iadd hx hb dL_law_1147 ?_
      refine lv_topi (fun x_1147 e_1147 => ?_)
      obtain rfl : x_1147 = nI (i + 2) := e_1147.trans (nI_add _ 2)
      refine va_sld hx hb hX hbl (Nat.not_le.mpr hbl) X.2 (vp_in_nI (show i + 2 < L by omega) (by omega)) dL_law_1148 ?_
      refine lv_topi (fun x_1148 e_1148 => ?_)
      obtain rfl : x_1148 = xs (i + 2) := e_1148.trans (by rw [nI_clamp (by omega)])
      refine lv_aload_n hx hb dL_law_1149 rfl (lv_at hl 2 rfl) ?_
      refine lv_iload hx hb dL_law_1150 (lv_at hl 1 rfl) ?_
      refine lv_iconst (v := 3) hx hb dL_law_1152 (by decide) ?_
      refine lv_iadd hx hb dL_law_1153 ?_
      refine lv_topi (fun x_1153 e_1153 => ?_)
      obtain rfl : x_1153 = nI (i + 3) := e_1153.trans (nI_add _ 3)
      refine va_sld hx hb hX hbl (Nat.not_le.mpr hbl) X.2 (vp_in_nI (show i + 3 < L by omega) (by omega)) dL_law_1154 ?_
      refine lv_topi (fun x_1154 e_1154 => ?_)
      obtain rfl : x_1154 = xs (i + 3) := e_1154.trans (by rw [nI_clamp (by omega)])
      refine lv_if_eq (tgt := 1162) hx hb dL_law_1155 (by decide) (fun c_1155 => ?_) (fun c_1155 => ?_)
      · refine lv_iconst (v := 0) hx hb dL_law_1162 (by decide) ?_
        refine k_Ri X (k_runV (As := [.int (xs (i + 1)), .int (xs (i + 2)), .int 0]) (rest := []) Z X (c_X8_isApproved l s G S T o ad1 (xs (i + 1)) (xs (i + 2)) 0 (okN_e hEq hS) ) (k_cwV 3 Z.1.2.2.2.2 (inU_33 _ (List.mem_of_getElem? (i := 16) rfl)) (inU_33 _ (List.mem_of_getElem? (i := 17) rfl)) (inU_33 _ (List.mem_of_getElem? (i := 18) rfl)) (inU_1 _ (List.mem_of_getElem? (i := 5) rfl)) (inU_33 _ (List.mem_of_getElem? (i := 19) rfl)) rfl rfl (by decide +kernel) ⟨Nat.le_of_ble_eq_true rfl, Nat.le_of_ble_eq_true rfl⟩) (k_recv Z X ct_16 rfl) rfl hl.1 rfl (Nat.le_of_ble_eq_true rfl) dL_law_1163 ⟨r1, r2⟩) (fun r_1163 ad2 ct2 H locs hp X => ?_)
        obtain ⟨hv, ha_, hb_⟩ := hp
        rw [if_neg hCT] at hb_
        rw [← ha_, hb_] at X
        refine lv_istore (lv' := [(6, .int r_1163), (5, .int (cAppr S (xs (i + 1)) (xs (i + 2)))), (4, .int (nI i)), (0, .ref b), (1, .ref (ad1 0 0)), (2, .ref (ad1 16 0)), (3, .ref (ad1 18 0))]) hx hb dL_law_1166 hl (by decide) rfl (fun ls hl => ?_)
        refine lv_aload_n hx hb dL_law_1168 rfl (lv_at hl 5 rfl) ?_
        refine k_Ri X (k_runV (As := []) (rest := []) Z X (c_X8_thrown l s G S (sI T 24 0 (cAppr T (xs (i + 1)) (xs (i + 2)))) o ad1) (k_cwV 0 Z.1.2.2.2.2 (inU_9 _ (List.mem_of_getElem? (i := 7) rfl)) (inU_9 _ (List.mem_of_getElem? (i := 8) rfl)) (inU_9 _ (List.mem_of_getElem? (i := 9) rfl)) (inU_1 _ (List.mem_of_getElem? (i := 5) rfl)) (inU_9 _ (List.mem_of_getElem? (i := 10) rfl)) rfl rfl (by decide +kernel) ⟨Nat.le_of_ble_eq_true rfl, Nat.le_of_ble_eq_true rfl⟩) (k_recv Z X ct_16 rfl) rfl hl.1 rfl (Nat.le_of_ble_eq_true rfl) dL_law_1169 ⟨r1, r2⟩) (fun r_1169 ad2 ct2 H locs hp X => ?_)
        obtain ⟨rfl, ha_, hb_⟩ := hp
        rw [← ha_, hb_] at X
        refine lv_iload hx hb dL_law_1172 (lv_at hl 1 rfl) ?_
        refine lv_icmp_eq (tgt := 1179) hx hb dL_law_1174 (by decide) (fun c_1174 => ?_) (fun c_1174 => ?_)
        · refine lv_iload hx hb dL_law_1179 (lv_at hl 1 rfl) ?_
          refine lv_if_ne (tgt := 1203) hx hb dL_law_1181 (by decide) (fun c_1181 => ?_) (fun c_1181 => ?_)
          · refine lv_goto (tgt := 1522) hx hb dL_law_1203 (by decide) ?_
            exact K _ _ _ _ _ _ _ ((hTie.t24 _).up (Nat.le_succ n)) X (lv_sub hl [2, 3, 4, 5, 6] rfl)
          · exact absurd c_1181 hC
        · exact absurd (sI_s.trans hCe.symm) c_1174
      · exact absurd c_1122 c_1155
  · refine lv_iconst (v := 1) hx hb dL_law_1125 (by decide) ?_
    refine lv_goto (tgt := 1130) hx hb dL_law_1126 (by decide) ?_
    refine lv_aload_n hx hb dL_law_1130 rfl (lv_at hl 4 rfl) ?_
    refine k_xRi X (k_xrunSW (As := [.ref (ad 0 0), .int (xs (i + 1)), .int (xs (i + 2)), .int 1, .ref (ad 18 0)]) (rest := []) Z X (c_L_isApproved l s G S T o ad (xs (i + 1)) (xs (i + 2)) 1 hE hS hLk (fun a u ha hu => (hM a u ha hu).1) hG9.1 (fun a ha u hu => hG9.2.2 _ a u ha hu)) (k_cwSW 5 Z.1.2.2.2.2 (inU_33 _ (List.mem_of_getElem? (i := 3) rfl)) (inU_33 _ (List.mem_of_getElem? (i := 4) rfl)) (inU_7 _ (List.mem_of_getElem? (i := 7) rfl)) (inU_33 _ (List.mem_of_getElem? (i := 5) rfl)) rfl rfl (by decide +kernel) ⟨(Nat.le_of_ble_eq_true rfl), (Nat.le_of_ble_eq_true rfl)⟩) rfl hl.1 rfl (Nat.le_of_ble_eq_true rfl) dL_law_1131 ⟨r1, r2⟩) (fun _ _ _ _ _ _ _ hp => hp.elim) (fun r_1131 ad1 ct1 H locs hp X => ?_)
    obtain ⟨rfl, hAK, hq⟩ := hp
    rw [← hAK.1, ← hAK.2.1, ← hAK.2.2] at hl
    rcases hq with ⟨hC, S1, hR1, rfl⟩ | ⟨hC, rfl⟩
    · have hCe : cAppr S (xs (i + 1)) (xs (i + 2)) = cAppr T (xs (i + 1)) (xs (i + 2)) := cAppr_e hEq (xs (i + 1)) (xs (i + 2))
      have hR1 : S1 = oAprC S (xs (i + 1)) 1 := hR1
      rw [hR1] at X
      have hCT : cAppr T (xs (i + 1)) (xs (i + 2)) = 0 := hCe.symm.trans hC
      obtain ⟨hT1, hval⟩ := t_appr hTie (xs (i + 1)) (xs (i + 2)) 1 hC
      have h24 : (sI T 24 0 0).1 24 0 = 0 := sI_s
      refine lv_istore (lv' := [(5, .int (cAppr S (xs (i + 1)) (xs (i + 2)))), (4, .int (nI i)), (0, .ref b), (1, .ref (ad1 0 0)), (2, .ref (ad1 16 0)), (3, .ref (ad1 18 0))]) hx hb dL_law_1134 hl (by decide) rfl (fun ls hl => ?_)
      refine lv_aload_n hx hb dL_law_1136 rfl (lv_at hl 4 rfl) ?_
      refine lv_aload_n hx hb dL_law_1137 rfl (lv_at hl 2 rfl) ?_
      refine lv_iload hx hb dL_law_1138 (lv_at hl 1 rfl) ?_
      refine lv_iconst (v := 1) hx hb dL_law_1140 (by decide) ?_
      refine lv_iadd hx hb dL_law_1141 ?_
      refine lv_topi (fun x_1141 e_1141 => ?_)
      obtain rfl : x_1141 = nI (i + 1) := e_1141.trans (nI_1 _)
      refine va_sld hx hb hX hbl (Nat.not_le.mpr hbl) X.2 (vp_in_nI (show i + 1 < L by omega) (by omega)) dL_law_1142 ?_
      refine lv_topi (fun x_1142 e_1142 => ?_)
      obtain rfl : x_1142 = xs (i + 1) := e_1142.trans (by rw [nI_clamp (by omega)])
      refine lv_aload_n hx hb dL_law_1143 rfl (lv_at hl 2 rfl) ?_
      refine lv_iload hx hb dL_law_1144 (lv_at hl 1 rfl) ?_
      refine lv_iconst (v := 2) hx hb dL_law_1146 (by decide) ?_
      refine lv_iadd hx hb dL_law_1147 ?_
      refine lv_topi (fun x_1147 e_1147 => ?_)
      obtain rfl : x_1147 = nI (i + 2) := e_1147.trans (nI_add _ 2)
      refine va_sld hx hb hX hbl (Nat.not_le.mpr hbl) X.2 (vp_in_nI (show i + 2 < L by omega) (by omega)) dL_law_1148 ?_
      refine lv_topi (fun x_1148 e_1148 => ?_)
      obtain rfl : x_1148 = xs (i + 2) := e_1148.trans (by rw [nI_clamp (by omega)])
      refine lv_aload_n hx hb dL_law_1149 rfl (lv_at hl 2 rfl) ?_
      refine lv_iload hx hb dL_law_1150 (lv_at hl 1 rfl) ?_
      refine lv_iconst (v := 3) hx hb dL_law_1152 (by decide) ?_
      refine lv_iadd hx hb dL_law_1153 ?_
      refine lv_topi (fun x_1153 e_1153 => ?_)
      obtain rfl : x_1153 = nI (i + 3) := e_1153.trans (nI_add _ 3)
      refine va_sld hx hb hX hbl (Nat.not_le.mpr hbl) X.2 (vp_in_nI (show i + 3 < L by omega) (by omega)) dL_law_1154 ?_
      refine lv_topi (fun x_1154 e_1154 => ?_)
      obtain rfl : x_1154 = xs (i + 3) := e_1154.trans (by rw [nI_clamp (by omega)])
      refine lv_if_eq (tgt := 1162) hx hb dL_law_1155 (by decide) (fun c_1155 => ?_) (fun c_1155 => ?_)
      · exact absurd c_1155 c_1122
      · refine lv_iconst (v := 1) hx hb dL_law_1158 (by decide) ?_
        refine lv_goto (tgt := 1163) hx hb dL_law_1159 (by decide) ?_
        refine k_Ri X (k_runV (As := [.int (xs (i + 1)), .int (xs (i + 2)), .int 1]) (rest := []) Z X (c_X8_isApproved l s G (oAprC S (xs (i + 1)) 1) T ((bI (rAprC S (xs (i + 1)) (xs (i + 2)) 1)).toInt64) ad1 (xs (i + 1)) (xs (i + 2)) 1 (okN_e hEq hS) ) (k_cwV 3 Z.1.2.2.2.2 (inU_33 _ (List.mem_of_getElem? (i := 16) rfl)) (inU_33 _ (List.mem_of_getElem? (i := 17) rfl)) (inU_33 _ (List.mem_of_getElem? (i := 18) rfl)) (inU_1 _ (List.mem_of_getElem? (i := 5) rfl)) (inU_33 _ (List.mem_of_getElem? (i := 19) rfl)) rfl rfl (by decide +kernel) ⟨Nat.le_of_ble_eq_true rfl, Nat.le_of_ble_eq_true rfl⟩) (k_recv Z X ct_16 rfl) rfl hl.1 rfl (Nat.le_of_ble_eq_true rfl) dL_law_1163 ⟨r1, r2⟩) (fun r_1163 ad2 ct2 H locs hp X => ?_)
        obtain ⟨hv, ha_, hb_⟩ := hp
        rw [if_pos hCT] at hb_
        rw [← ha_, hb_] at X
        have hv2 : r_1163 = bI (rAprC S (xs (i + 1)) (xs (i + 2)) 1) := (hv hCT).trans hval.symm
        subst hv2
        refine lv_istore (lv' := [(6, .int (bI (rAprC S (xs (i + 1)) (xs (i + 2)) 1))), (5, .int (cAppr S (xs (i + 1)) (xs (i + 2)))), (4, .int (nI i)), (0, .ref b), (1, .ref (ad1 0 0)), (2, .ref (ad1 16 0)), (3, .ref (ad1 18 0))]) hx hb dL_law_1166 hl (by decide) rfl (fun ls hl => ?_)
        refine lv_aload_n hx hb dL_law_1168 rfl (lv_at hl 5 rfl) ?_
        refine k_Ri X (k_runV (As := []) (rest := []) Z X (c_X8_thrown l s G (oAprC S (xs (i + 1)) 1) (sI T 24 0 0) ((bI (rAprC S (xs (i + 1)) (xs (i + 2)) 1)).toInt64) ad1) (k_cwV 0 Z.1.2.2.2.2 (inU_9 _ (List.mem_of_getElem? (i := 7) rfl)) (inU_9 _ (List.mem_of_getElem? (i := 8) rfl)) (inU_9 _ (List.mem_of_getElem? (i := 9) rfl)) (inU_1 _ (List.mem_of_getElem? (i := 5) rfl)) (inU_9 _ (List.mem_of_getElem? (i := 10) rfl)) rfl rfl (by decide +kernel) ⟨Nat.le_of_ble_eq_true rfl, Nat.le_of_ble_eq_true rfl⟩) (k_recv Z X ct_16 rfl) rfl hl.1 rfl (Nat.le_of_ble_eq_true rfl) dL_law_1169 ⟨r1, r2⟩) (fun r_1169 ad2 ct2 H locs hp X => ?_)
        obtain ⟨rfl, ha_, hb_⟩ := hp
        rw [← ha_, hb_] at X
        refine lv_iload hx hb dL_law_1172 (lv_at hl 1 rfl) ?_
        refine lv_icmp_eq (tgt := 1179) hx hb dL_law_1174 (by decide) (fun c_1174 => ?_) (fun c_1174 => ?_)
        · refine lv_iload hx hb dL_law_1179 (lv_at hl 1 rfl) ?_
          refine lv_if_ne (tgt := 1203) hx hb dL_law_1181 (by decide) (fun c_1181 => ?_) (fun c_1181 => ?_)
          · exact absurd hC c_1181
          · refine lv_aload_n hx hb dL_law_1184 rfl (lv_at hl 6 rfl) ?_
            refine lv_iconst (v := 0) hx hb dL_law_1185 (by decide) ?_
            refine k_lld (ad := ad1) (k := 18) (i := 0) Z X ct_18 (by unfold vp_in; decide) dL_law_1186 ?_
            refine lv_iload hx hb dL_law_1187 (lv_at hl 0 rfl) ?_
            refine lv_if_eq (tgt := 1196) hx hb dL_law_1189 (by decide) (fun c_1189 => ?_) (fun c_1189 => ?_)
            · have cb_ : bI (rAprC S (xs (i + 1)) (xs (i + 2)) 1) = bI false := c_1189
              refine lv_lconst (v := 0) hx hb dL_law_1196 (by decide) ?_
              refine W.lcmp hx hb dL_law_1197 ?_
              refine lv_topi (fun x_1197 e_1197 => ?_)
              have ez : (bI (rAprC S (xs (i + 1)) (xs (i + 2)) 1)).toInt64 = 0 := by rw [cb_]; rfl
              obtain rfl : x_1197 = 0 := e_1197.trans ((congrArg (fun z => lg_cmp z 0) ez).trans (lg_self _))
              refine lv_if_eq (tgt := 1203) hx hb dL_law_1198 (by decide) (fun c_1198 => ?_) (fun c_1198 => ?_)
              · refine lv_goto (tgt := 1522) hx hb dL_law_1203 (by decide) ?_
                exact K _ _ _ _ _ _ _ hT1 X (lv_sub hl [2, 3, 4, 5, 6] rfl)
              · exact absurd c_1198 (by decide)
            · have cb_ : bI (rAprC S (xs (i + 1)) (xs (i + 2)) 1) = bI true := (show bI (rAprC S (xs (i + 1)) (xs (i + 2)) 1) = 0 ∨ bI (rAprC S (xs (i + 1)) (xs (i + 2)) 1) = 1 from bI_01).resolve_left c_1189
              refine lv_lconst (v := 1) hx hb dL_law_1192 (by decide) ?_
              refine lv_goto (tgt := 1197) hx hb dL_law_1193 (by decide) ?_
              refine W.lcmp hx hb dL_law_1197 ?_
              refine lv_topi (fun x_1197 e_1197 => ?_)
              have ez : (bI (rAprC S (xs (i + 1)) (xs (i + 2)) 1)).toInt64 = 1 := by rw [cb_]; rfl
              obtain rfl : x_1197 = 0 := e_1197.trans ((congrArg (fun z => lg_cmp z 1) ez).trans (lg_self _))
              refine lv_if_eq (tgt := 1203) hx hb dL_law_1198 (by decide) (fun c_1198 => ?_) (fun c_1198 => ?_)
              · refine lv_goto (tgt := 1522) hx hb dL_law_1203 (by decide) ?_
                exact K _ _ _ _ _ _ _ hT1 X (lv_sub hl [2, 3, 4, 5, 6] rfl)
              · exact absurd c_1198 (by decide)
        · exact absurd (h24.trans hC.symm) c_1174
    · have hCe : cAppr S (xs (i + 1)) (xs (i + 2)) = cAppr T (xs (i + 1)) (xs (i + 2)) := cAppr_e hEq (xs (i + 1)) (xs (i + 2))
      have hCT : ¬ cAppr T (xs (i + 1)) (xs (i + 2)) = 0 := fun z => hC (hCe.trans z)
      refine lv_istore (lv' := [(5, .int (cAppr S (xs (i + 1)) (xs (i + 2)))), (4, .int (nI i)), (0, .ref b), (1, .ref (ad1 0 0)), (2, .ref (ad1 16 0)), (3, .ref (ad1 18 0))]) hx hb dL_law_1134 hl (by decide) rfl (fun ls hl => ?_)
      refine lv_aload_n hx hb dL_law_1136 rfl (lv_at hl 4 rfl) ?_
      refine lv_aload_n hx hb dL_law_1137 rfl (lv_at hl 2 rfl) ?_
      refine lv_iload hx hb dL_law_1138 (lv_at hl 1 rfl) ?_
      refine lv_iconst (v := 1) hx hb dL_law_1140 (by decide) ?_
      refine lv_iadd hx hb dL_law_1141 ?_
      refine lv_topi (fun x_1141 e_1141 => ?_)
      obtain rfl : x_1141 = nI (i + 1) := e_1141.trans (nI_1 _)
      refine va_sld hx hb hX hbl (Nat.not_le.mpr hbl) X.2 (vp_in_nI (show i + 1 < L by omega) (by omega)) dL_law_1142 ?_
      refine lv_topi (fun x_1142 e_1142 => ?_)
      obtain rfl : x_1142 = xs (i + 1) := e_1142.trans (by rw [nI_clamp (by omega)])
      refine lv_aload_n hx hb dL_law_1143 rfl (lv_at hl 2 rfl) ?_
      refine lv_iload hx hb dL_law_1144 (lv_at hl 1 rfl) ?_
      refine lv_iconst (v := 2) hx hb dL_law_1146 (by decide) ?_
      refine lv_iadd hx hb dL_law_1147 ?_
      refine lv_topi (fun x_1147 e_1147 => ?_)
      obtain rfl : x_1147 = nI (i + 2) := e_1147.trans (nI_add _ 2)
      refine va_sld hx hb hX hbl (Nat.not_le.mpr hbl) X.2 (vp_in_nI (show i + 2 < L by omega) (by omega)) dL_law_1148 ?_
      refine lv_topi (fun x_1148 e_1148 => ?_)
      obtain rfl : x_1148 = xs (i + 2) := e_1148.trans (by rw [nI_clamp (by omega)])
      refine lv_aload_n hx hb dL_law_1149 rfl (lv_at hl 2 rfl) ?_
      refine lv_iload hx hb dL_law_1150 (lv_at hl 1 rfl) ?_
      refine lv_iconst (v := 3) hx hb dL_law_1152 (by decide) ?_
      refine lv_iadd hx hb dL_law_1153 ?_
      refine lv_topi (fun x_1153 e_1153 => ?_)
      obtain rfl : x_1153 = nI (i + 3) := e_1153.trans (nI_add _ 3)
      refine va_sld hx hb hX hbl (Nat.not_le.mpr hbl) X.2 (vp_in_nI (show i + 3 < L by omega) (by omega)) dL_law_1154 ?_
      refine lv_topi (fun x_1154 e_1154 => ?_)
      obtain rfl : x_1154 = xs (i + 3) := e_1154.trans (by rw [nI_clamp (by omega)])
      refine lv_if_eq (tgt := 1162) hx hb dL_law_1155 (by decide) (fun c_1155 => ?_) (fun c_1155 => ?_)
      · exact absurd c_1155 c_1122
      · refine lv_iconst (v := 1) hx hb dL_law_1158 (by decide) ?_
        refine lv_goto (tgt := 1163) hx hb dL_law_1159 (by decide) ?_
        refine k_Ri X (k_runV (As := [.int (xs (i + 1)), .int (xs (i + 2)), .int 1]) (rest := []) Z X (c_X8_isApproved l s G S T o ad1 (xs (i + 1)) (xs (i + 2)) 1 (okN_e hEq hS) ) (k_cwV 3 Z.1.2.2.2.2 (inU_33 _ (List.mem_of_getElem? (i := 16) rfl)) (inU_33 _ (List.mem_of_getElem? (i := 17) rfl)) (inU_33 _ (List.mem_of_getElem? (i := 18) rfl)) (inU_1 _ (List.mem_of_getElem? (i := 5) rfl)) (inU_33 _ (List.mem_of_getElem? (i := 19) rfl)) rfl rfl (by decide +kernel) ⟨Nat.le_of_ble_eq_true rfl, Nat.le_of_ble_eq_true rfl⟩) (k_recv Z X ct_16 rfl) rfl hl.1 rfl (Nat.le_of_ble_eq_true rfl) dL_law_1163 ⟨r1, r2⟩) (fun r_1163 ad2 ct2 H locs hp X => ?_)
        obtain ⟨hv, ha_, hb_⟩ := hp
        rw [if_neg hCT] at hb_
        rw [← ha_, hb_] at X
        refine lv_istore (lv' := [(6, .int r_1163), (5, .int (cAppr S (xs (i + 1)) (xs (i + 2)))), (4, .int (nI i)), (0, .ref b), (1, .ref (ad1 0 0)), (2, .ref (ad1 16 0)), (3, .ref (ad1 18 0))]) hx hb dL_law_1166 hl (by decide) rfl (fun ls hl => ?_)
        refine lv_aload_n hx hb dL_law_1168 rfl (lv_at hl 5 rfl) ?_
        refine k_Ri X (k_runV (As := []) (rest := []) Z X (c_X8_thrown l s G S (sI T 24 0 (cAppr T (xs (i + 1)) (xs (i + 2)))) o ad1) (k_cwV 0 Z.1.2.2.2.2 (inU_9 _ (List.mem_of_getElem? (i := 7) rfl)) (inU_9 _ (List.mem_of_getElem? (i := 8) rfl)) (inU_9 _ (List.mem_of_getElem? (i := 9) rfl)) (inU_1 _ (List.mem_of_getElem? (i := 5) rfl)) (inU_9 _ (List.mem_of_getElem? (i := 10) rfl)) rfl rfl (by decide +kernel) ⟨Nat.le_of_ble_eq_true rfl, Nat.le_of_ble_eq_true rfl⟩) (k_recv Z X ct_16 rfl) rfl hl.1 rfl (Nat.le_of_ble_eq_true rfl) dL_law_1169 ⟨r1, r2⟩) (fun r_1169 ad2 ct2 H locs hp X => ?_)
        obtain ⟨rfl, ha_, hb_⟩ := hp
        rw [← ha_, hb_] at X
        refine lv_iload hx hb dL_law_1172 (lv_at hl 1 rfl) ?_
        refine lv_icmp_eq (tgt := 1179) hx hb dL_law_1174 (by decide) (fun c_1174 => ?_) (fun c_1174 => ?_)
        · refine lv_iload hx hb dL_law_1179 (lv_at hl 1 rfl) ?_
          refine lv_if_ne (tgt := 1203) hx hb dL_law_1181 (by decide) (fun c_1181 => ?_) (fun c_1181 => ?_)
          · refine lv_goto (tgt := 1522) hx hb dL_law_1203 (by decide) ?_
            exact K _ _ _ _ _ _ _ ((hTie.t24 _).up (Nat.le_succ n)) X (lv_sub hl [2, 3, 4, 5, 6] rfl)
          · exact absurd c_1181 hC
        · exact absurd (sI_s.trans hCe.symm) c_1174
end ARM
