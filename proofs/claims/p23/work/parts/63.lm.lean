/-! BEHIND EACH CALL, ahead of the settling -/
section MID
variable {n : Nat} {S A A' : kSt}
theorem Iv.tie (h : Iv n S A) : ∃ T, Tie n S T := h.1.1
theorem Iv.lt (h : Iv n S A) : LT S A := h.1.2.1
theorem Iv.sum (h : Iv n S A) : A.1 11 5 = tot S := h.1.2.2
theorem Mid.user (h : Iv n S A) {r cap : Nat} (hr : r < 4) (h8 : S.2 0 0 < 8) (hcap : capok (S.2 0 0) cap) : Mid (n + 1) (gU S (nI r) cap) (sI (sI (sI A 1 (S.2 0 0) (nI r)) 1 (8 + S.2 0 0) (-1)) 11 1 (nI (S.2 0 0 + 1))) := by
  obtain ⟨T, hT⟩ := h.tie
  exact Mid.set (t_user hT _ (cUser_v hr h8) hcap) (h.lt.user hr h8) (by
    rw [sI_n (by decide), sI_f (by decide), sI_f (by decide), h.sum]
    exact (tot_c (S := S) (S' := gU S (nI r) cap) rfl (gU_1 (by decide)) (gU_1 (by decide)) (gU_1 (by decide))).symm) ((BB.c (S' := gU S (nI r) cap) h.2 rfl (gU_1 (by decide)) (gU_1 (by decide)) (gU_1 (by decide))).up (k := n + 1) (by omega))
theorem Mid.role (h : Iv n S A) {j r : Nat} (hj : j < S.2 0 0) (hr : r < 4) : Mid (n + 1) (oRole S (kdS S) (nI j) (nI r)) (sI A 1 j (nI r)) := by
  obtain ⟨T, hT⟩ := h.tie
  have c8 := h.lt.c
  have e : oRole S (kdS S) (nI j) (nI r) = stl (sI S 1 j (nI r)) (kdS (sI S 1 j (nI r))) (S.2 0 2) := by rw [kdS_sI (by decide), oRole, show cl (nI j) = j from nI_clamp (by omega)]
  exact Mid.of (t_role hT _ _).1 (h.lt.role hj hr) (by
    rw [sI_f (by decide), h.sum]
    exact (tot_c (S := S) (S' := sI S 1 j (nI r)) rfl (sI_fn (by decide)) (sI_fn (by decide)) (sI_fn (by decide))).symm) ((BB.c (S' := sI S 1 j (nI r)) h.2 rfl (sI_fn (by decide)) (sI_fn (by decide)) (sI_fn (by decide))).up (k := n + 1) (by omega)) e
theorem Mid.ends (h : Iv n S A) {j : Nat} {x : Int32} (hj : j < S.2 0 0) (hx : vEnds S x = -1 ∨ 0 ≤ vEnds S x) : Mid (n + 1) (oEnds S (kdS S) (nI j) x) (sI A 1 (8 + j) (vEnds S x)) := by
  obtain ⟨T, hT⟩ := h.tie
  have c8 := h.lt.c
  have e : oEnds S (kdS S) (nI j) x = stl (sI S 2 j (vEnds S x)) (kdS (sI S 2 j (vEnds S x))) (S.2 0 2) := by rw [kdS_sI (by decide), oEnds, show cl (nI j) = j from nI_clamp (by omega)]
  exact Mid.of (t_ends hT _ _).1 (h.lt.ends hj hx) (by
    rw [sI_f (by decide), h.sum]
    exact (tot_c (S := S) (S' := sI S 2 j (vEnds S x)) rfl (sI_fn (by decide)) (sI_fn (by decide)) (sI_fn (by decide))).symm) ((BB.c (S' := sI S 2 j (vEnds S x)) h.2 rfl (sI_fn (by decide)) (sI_fn (by decide)) (sI_fn (by decide))).up (k := n + 1) (by omega)) e
theorem chS_add {S : kSt} {c : Nat} {x : Int32} : ∀ m, chS (sI S 3 c (S.1 3 c + x)) m = chS S m + (if c < m then x else 0)
  | 0 => by simp [chS]
  | m + 1 => by
    have ih := chS_add (S := S) (c := c) (x := x) m
    simp only [chS]
    rw [ih]
    by_cases e : m = c
    · rw [e, sI_s, if_neg (Nat.lt_irrefl c), if_pos (Nat.lt_succ_self c), Int32.add_zero]; ac_rfl
    · rw [sI_n e]
      by_cases h2 : c < m
      · rw [if_pos h2, if_pos (show c < m + 1 by omega)]; ac_rfl
      · rw [if_neg h2, if_neg (show ¬ c < m + 1 by omega), Int32.add_zero, Int32.add_zero]
theorem Mid.budget (h : Iv n S A) {c x : Nat} (hc : c < 6) (hx : x < 1000001) : Mid (n + 1) (oBudget S (nI c) (nI x)) (sI (sI A 6 c (S.1 3 c + nI x)) 11 5 (A.1 11 5 + nI x)) := by
  obtain ⟨T, hT⟩ := h.tie
  have e : oBudget S (nI c) (nI x) = sI S 3 c (S.1 3 c + nI x) := by rw [oBudget, show cl (nI c) = c from nI_clamp (by omega)]
  have z := (t_budget hT (nI c) (nI x)).1
  rw [e] at z ⊢
  refine Mid.set z ((h.lt.budg hc _).g5 _) ?_ ?_
  · rw [sI_s, h.sum]
    unfold tot totC
    show _ = spS (sI S 3 c (S.1 3 c + nI x)) (S.2 0 2) + _
    rw [chS_add, if_pos hc, spS_c (sI_fn (by decide)) (sI_fn (by decide)), Int32.add_assoc]
  · refine ⟨fun k hk => by rw [sI_fn (by decide)]; exact h.2.1 k hk, fun d hd => ?_⟩
    obtain ⟨b, b1, b2⟩ := h.2.2 d hd
    show ∃ b, _ ∧ b + 1000000 * stN (sI S 3 c (S.1 3 c + nI x)) (S.2 0 2) ≤ _
    rw [stN_c (sI_fn (by decide))]
    by_cases e2 : d = c
    · rw [e2] at b1 ⊢
      rw [sI_s]
      exact ⟨b + x, by rw [b1]; exact nI_add b x, by omega⟩
    · rw [sI_n e2]; exact ⟨b, b1, by omega⟩
theorem Iv.post (h : Iv n S A) {u ch pp cap : Nat} (hn : n ≤ 90) (hu : u < 8) (hch : ch < 6) (hpp : pp ≤ 30) (h30 : S.2 0 1 < 30) (hc : cPost S (nI u) (nI ch) (nI pp - 1) = 0) (hcap : capok (S.2 0 1) cap) : Mid (n + 1) (gM S (nI u) (nI ch) (nI pp - 1) cap) (sI (sI (sI A 2 (S.2 0 1) (nI (u + 16 * ch + 128 * pp))) 4 (S.2 0 1) (S.1 0 0)) 11 2 (nI (S.2 0 1 + 1))) := by
  obtain ⟨T, hT⟩ := h.tie
  obtain ⟨⟨hr, h1, h2⟩, -⟩ := h.1.ok.2.2.2.2.2.2
  exact Mid.set (t_post hT _ _ _ hc hcap) (h.lt.post hu hch hpp h30 (by omega) h2) (by
    rw [sI_n (by decide), sI_f (by decide), sI_f (by decide), h.sum]
    exact (tot_c (S := S) (S' := gM S (nI u) (nI ch) (nI pp - 1) cap) rfl (gM_1 (by decide) (by omega)) (gM_1 (by decide) (by omega)) (gM_1 (by decide) (by omega))).symm) ((BB.c (S' := gM S (nI u) (nI ch) (nI pp - 1) cap) h.2 rfl (gM_1 (by decide) (by omega)) (gM_1 (by decide) (by omega)) (gM_1 (by decide) (by omega))).up (k := n + 1) (by omega))
theorem oEdC_2 {S : kSt} {m : Int32} {f j : Nat} (h : ¬ (f = 0 ∧ j = 4)) : (oEdC S m).2 f j = S.2 f j := by
  unfold oEdC
  rw [(drp_r _ _ _).1]
  exact if_neg h
theorem oEdC_1 {S : kSt} {m : Int32} {f : Nat} (h : f < 100) (h2 : f ≠ 7 ∧ f ≠ 14 ∧ f ≠ 15 ∧ f ≠ 16 ∧ f ≠ 17) : (oEdC S m).1 f = S.1 f := by
  unfold oEdC
  rw [drp_fn h2.2.1]
  show (sI (sI (sI (oEd1 S m) 15 _ _) 16 _ _) 17 _ _).1 f = _
  rw [fn3 ⟨h2.2.2.1, h2.2.2.2.1, h2.2.2.2.2⟩, oEd1, sR_fn (by omega), sI_fn h2.1]
theorem Mid.edit (h : Iv n S A) (hn : n ≤ 90) {u a : Nat} (hc : cEdit S (nI u) (nI a) = 0) (hL : LT (oEdC S (nI a)) A') (h11 : A'.1 11 = A.1 11) : Mid (n + 1) (oEditC S (nI a)) A' := by
  obtain ⟨T, hT⟩ := h.tie
  refine Mid.of (t_edit hT (by omega) _ _ hc).1 hL ?_ ((BB.c (S' := oEdC S (nI a)) h.2 (oEdC_2 (by decide)) (oEdC_1 (by decide) (by decide)) (oEdC_1 (by decide) (by decide)) (oEdC_1 (by decide) (by decide))).up (k := n + 1) (by omega)) ?_
  · rw [h11, h.sum]
    exact (tot_c (S := S) (S' := oEdC S (nI a)) (oEdC_2 (by decide)) (oEdC_1 (by decide) (by decide)) (oEdC_1 (by decide) (by decide)) (oEdC_1 (by decide) (by decide))).symm
  · rw [oEdC_2 (by decide)]; rfl
theorem oMkC_1 {S : kSt} {u m x : Int32} {f : Nat} (h : f < 100) (h2 : f ≠ 15 ∧ f ≠ 16 ∧ f ≠ 17) : (oMkC S u m x).1 f = S.1 f := by
  show (sI (sI (sI (sI S (100 + cl m) (cl u) x) 15 _ _) 16 _ _) 17 _ _).1 f = _
  rw [fn3 h2, sI_fn (by omega)]
theorem oMkC_2 {S : kSt} {u m x : Int32} {f j : Nat} (h : ¬ (f = 0 ∧ j = 4)) : (oMkC S u m x).2 f j = S.2 f j := if_neg h
theorem Mid.mark (h : Iv n S A) (hn : n ≤ 90) {u a : Nat} {x : Int32} (hc : cMark S (kdS S) (nI u) (nI a) x = 0) (hL : LT (oMkC S (nI u) (nI a) x) A') (h11 : A'.1 11 = A.1 11) : Mid (n + 1) (oMarkC S (nI u) (nI a) x) A' := by
  obtain ⟨T, hT⟩ := h.tie
  refine Mid.of (t_mark hT (by omega) _ _ _ hc).1 hL ?_ ((BB.c (S' := oMkC S (nI u) (nI a) x) h.2 (oMkC_2 (by decide)) (oMkC_1 (by decide) (by decide)) (oMkC_1 (by decide) (by decide)) (oMkC_1 (by decide) (by decide))).up (k := n + 1) (by omega)) ?_
  · rw [h11, h.sum]
    exact (tot_c (S := S) (S' := oMkC S (nI u) (nI a) x) (oMkC_2 (by decide)) (oMkC_1 (by decide) (by decide)) (oMkC_1 (by decide) (by decide)) (oMkC_1 (by decide) (by decide))).symm
  · rw [oMkC_2 (by decide)]; rfl
/-- the answer of a mark, as the law counts it -/
theorem mark_ans {S : kSt} {u a : Nat} {x : Int32} (ha : a < 2 ^ 31) : cntN (oMarkC S (nI u) (nI a) x) (kdS (oMarkC S (nI u) (nI a) x) (cl (nI a))) (S.2 0 0) = cntN (oMkC S (nI u) (nI a) x) (kdS (oMkC S (nI u) (nI a) x) a) ((oMkC S (nI u) (nI a) x).2 0 0) := by
  rw [oMkC_2 (by decide), show cl (nI a) = a from nI_clamp ha]
  have e : oMarkC S (nI u) (nI a) x = stl (oMkC S (nI u) (nI a) x) (kdS (oMkC S (nI u) (nI a) x)) (S.2 0 2) := rfl
  rw [e, kdS_stl]
  exact cntN_c (by rw [stl_1 (by decide)]) (fun j => by rw [stl_1 (by decide)]) (fun j => by rw [stl_1 (by decide)]) (fun _ _ => rfl)
theorem gS_3 {S : kSt} {a cap : Nat} {x : Int32} (ha : a < 2 ^ 31) : (gS S (nI a) x cap).1 3 = (sI S 3 (S.2 2 a) (S.1 3 (S.2 2 a) - x)).1 3 := by
  have ca : cl (nI a) = a := nI_clamp ha
  show (sI (sN (oSpend S (nI a) x) 6 3 cap) 19 3 (S.1 19 3 + 1)).1 3 = _
  rw [sI_fn (by decide)]
  show (oSpend S (nI a) x).1 3 = _
  rw [oSpend_1, ca]
  funext q
  by_cases e : q = S.2 2 a
  · rw [e, sI_s, sI_s]
  · rw [sI_n e, sI_n e, sI_f (by decide), sI_f (by decide), sI_f (by decide)]
theorem gS_v {S : kSt} {a cap : Nat} {x : Int32} (ha : a < 2 ^ 31) {f : Nat} (hf : f = 11 ∨ f = 12) : (gS S (nI a) x cap).1 f = (sI (sI S 11 (S.2 0 2) x) 12 (S.2 0 2) 0).1 f := by
  have ca : cl (nI a) = a := nI_clamp ha
  show (sI (sN (oSpend S (nI a) x) 6 3 cap) 19 3 (S.1 19 3 + 1)).1 f = _
  rw [sI_fn (by omega)]
  show (oSpend S (nI a) x).1 f = _
  rw [oSpend_1, ca, sI_fn (by omega)]
  rcases hf with rfl | rfl
  · funext q
    by_cases e : q = S.2 0 2
    · rw [e]; exact ((sI_f (by decide)).trans sI_s).trans ((sI_f (by decide)).trans sI_s).symm
    · exact ((sI_f (by decide)).trans ((sI_n e).trans (sI_f (by decide)))).trans ((sI_f (by decide)).trans (sI_n e)).symm
  · funext q
    by_cases e : q = S.2 0 2
    · rw [e, sI_s, sI_s]
    · rw [sI_n e, sI_n e, sI_f (by decide), sI_f (by decide), sI_f (by decide)]
theorem spS_new {S S' : kSt} {k : Nat} (h : ∀ j, j < k → S'.1 12 j = S.1 12 j ∧ S'.1 11 j = S.1 11 j) : spS S' k = spS S k := by
  induction k with
  | zero => rfl
  | succ k ih =>
    simp only [spS]
    rw [ih (fun j hj => h j (by omega)), (h k (by omega)).1, (h k (by omega)).2]
theorem stN_new {S S' : kSt} {k : Nat} (h : ∀ j, j < k → S'.1 12 j = S.1 12 j) : stN S' k = stN S k := by
  induction k with
  | zero => rfl
  | succ k ih =>
    simp only [stN]
    rw [ih (fun j hj => h j (by omega)), h k (by omega)]
theorem chS_at {S S' : kSt} (h : S'.1 3 = S.1 3) (k : Nat) : chS S' k = chS S k := chS_c h k
theorem Mid.spend (h : Iv n S A) (hn : n ≤ 90) {u a x v cap : Nat} (ha : a < S.2 0 1) (h30 : S.2 0 2 < 30) (hx : x ≤ 1000000) (he : S.1 7 a = nI v) (hv : v < 128) (hb : ¬ S.1 3 (S.2 2 a) < nI x) (hc : cSpend S (kdS S) (nI u) (nI a) (nI x) = 0) (hcap : capok (S.2 0 2) cap) : Mid (n + 1) (gS S (nI a) (nI x) cap) (sI (sI (sI (sI A 7 (S.2 0 2) (nI (a + 64 * v))) 8 (S.2 0 2) (nI x)) 6 (S.2 2 a) (S.1 3 (S.2 2 a) - nI x)) 11 3 (nI (S.2 0 2 + 1))) := by
  obtain ⟨T, hT⟩ := h.tie
  have hN := h.1.ok.1
  have hch := (hN.2.2.2.2.1 a ha).2
  have ha2 : a < 2 ^ 31 := by have := hN.2.1; omega
  have g12 : ∀ j, j < S.2 0 2 → (gS S (nI a) (nI x) cap).1 12 j = S.1 12 j := fun j hj => by rw [gS_v ha2 (Or.inr rfl), sI_n (by omega), sI_f (by decide)]
  have g11 : ∀ j, j < S.2 0 2 → (gS S (nI a) (nI x) cap).1 11 j = S.1 11 j := fun j hj => by rw [gS_v ha2 (Or.inl rfl), sI_f (by decide), sI_n (by omega)]
  have g12s : (gS S (nI a) (nI x) cap).1 12 (S.2 0 2) = 0 := by rw [gS_v ha2 (Or.inr rfl), sI_s]
  have g11s : (gS S (nI a) (nI x) cap).1 11 (S.2 0 2) = nI x := by rw [gS_v ha2 (Or.inl rfl), sI_f (by decide), sI_s]
  have n2 : (gS S (nI a) (nI x) cap).2 0 2 = S.2 0 2 + 1 := rfl
  have hch3 : ∀ m, chS (gS S (nI a) (nI x) cap) m = chS (sI S 3 (S.2 2 a) (S.1 3 (S.2 2 a) + -nI x)) m := chS_c (by rw [gS_3 ha2, Int32.sub_eq_add_neg])
  refine Mid.set (t_spend hT _ _ _ hc hcap) (h.lt.spnd ha h30 hch hv he) ?_ ?_
  · rw [sI_n (by decide), sI_f (by decide), sI_f (by decide), sI_f (by decide), h.sum]
    unfold tot totC
    rw [n2, hch3, chS_add, if_pos hch]
    show _ = (spS (gS S (nI a) (nI x) cap) (S.2 0 2) + _) + _
    rw [g12s, g11s, if_pos rfl, spS_new (fun j hj => ⟨g12 j hj, g11 j hj⟩)]
    have z : nI x + -nI x = 0 := Int32.add_right_neg _
    calc spS S (S.2 0 2) + chS S 6 = spS S (S.2 0 2) + chS S 6 + (nI x + -nI x) := by rw [z, Int32.add_zero]
      _ = _ := by ac_rfl
  · refine ⟨fun k hk => ?_, fun d hd => ?_⟩
    · rw [n2] at hk
      by_cases e : k = S.2 0 2
      · rw [e, g11s]; exact ⟨x, hx, rfl⟩
      · rw [g11 k (by omega)]; exact h.2.1 k (by omega)
    · obtain ⟨b, b1, b2⟩ := h.2.2 d hd
      rw [n2, gS_3 ha2]
      show ∃ b, _ ∧ b + 1000000 * (stN (gS S (nI a) (nI x) cap) (S.2 0 2) + _) ≤ _
      rw [g12s, if_pos rfl, stN_new g12]
      by_cases e : d = S.2 2 a
      · rw [e, sI_s]
        rw [e] at b1
        rw [b1] at hb ⊢
        have hxb : x ≤ b := Nat.le_of_not_lt (fun z => hb ((nI_ltI (a := b) (b := x) (by omega) (by omega)).mpr z))
        exact ⟨b - x, pk_sub hxb, by omega⟩
      · rw [sI_n e]; exact ⟨b, b1, by omega⟩
theorem Mid.task (h : Iv n S A) (hn : n ≤ 90) {u a w v cap : Nat} {x : Int32} (ha : a < S.2 0 1) (h30 : S.2 0 3 < 30) (hw : w < 8) (he : S.1 7 a = nI v) (hv : v < 128) (hc : cTask S (nI u) (nI a) (nI w) x = 0) (hcap : capok (S.2 0 3) cap) : Mid (n + 1) (gT S (nI a) (nI w) x cap) (sI (sI (sI A 9 (S.2 0 3) (nI (a + 64 * v + 8192 * w))) 10 (S.2 0 3) (S.1 0 0 + x)) 11 4 (nI (S.2 0 3 + 1))) := by
  obtain ⟨T, hT⟩ := h.tie
  exact Mid.set (t_task hT _ _ _ _ hc hcap) (h.lt.task ha h30 hw hv he) (by
    rw [sI_n (by decide), sI_f (by decide), sI_f (by decide), h.sum]
    exact (tot_c (S := S) (S' := gT S (nI a) (nI w) x cap) rfl (gT_1 (by decide)) (gT_1 (by decide)) (gT_1 (by decide))).symm) ((BB.c (S' := gT S (nI a) (nI w) x cap) h.2 rfl (gT_1 (by decide)) (gT_1 (by decide)) (gT_1 (by decide))).up (k := n + 1) (by omega))
theorem Mid.done (h : Iv n S A) {t : Nat} (ht : t < S.2 0 3) (h14 : S.1 14 t = 0) : Mid (n + 1) (oDone S (nI t)) (sI A 9 t (nI (enct S t + 131072))) := by
  obtain ⟨T, hT⟩ := h.tie
  have c := h.lt.c
  have e : oDone S (nI t) = sI S 14 t 1 := by rw [oDone, show cl (nI t) = t from nI_clamp (by omega)]
  have z := (t_done hT (nI t)).1
  rw [e] at z ⊢
  exact Mid.set z (h.lt.tsk (q := 1) ht h14 (by decide)) (by
    rw [sI_f (by decide), h.sum]
    exact (tot_c (S := S) (S' := sI S 14 t 1) rfl (sI_fn (by decide)) (sI_fn (by decide)) (sI_fn (by decide))).symm) ((BB.c (S' := sI S 14 t 1) h.2 rfl (sI_fn (by decide)) (sI_fn (by decide)) (sI_fn (by decide))).up (k := n + 1) (by omega))
theorem Mid.hold (h : Iv n S A) {c : Nat} (hc : c < 6) : Mid (n + 1) (oHold S (nI c)) (sI A 6 (8 + c) (bI (decide (S.1 4 c = 0)))) := by
  obtain ⟨T, hT⟩ := h.tie
  have e : oHold S (nI c) = sI S 4 c (bI (decide (S.1 4 c = 0))) := by rw [oHold, vHold, show cl (nI c) = c from nI_clamp (by omega)]
  have z := (t_hold hT (nI c)).1
  rw [e] at z ⊢
  exact Mid.set z (h.lt.hold hc bI_01) (by
    rw [sI_f (by decide), h.sum]
    exact (tot_c (S := S) (S' := sI S 4 c (bI (decide (S.1 4 c = 0)))) rfl (sI_fn (by decide)) (sI_fn (by decide)) (sI_fn (by decide))).symm) ((BB.c (S' := sI S 4 c (bI (decide (S.1 4 c = 0)))) h.2 rfl (sI_fn (by decide)) (sI_fn (by decide)) (sI_fn (by decide))).up (k := n + 1) (by omega))
theorem Mid.arch (h : Iv n S A) (c : Nat) (hL : LT (arcS S c (S.2 0 1)) A') (h11 : A'.1 11 = A.1 11) : Mid (n + 1) (arcS S c (S.2 0 1)) A' := by
  obtain ⟨T, hT⟩ := h.tie
  obtain ⟨e2, e1, -⟩ := arcS_r c (S.2 0 1) S
  exact Mid.set (t_arch hT c).1 hL (by
    rw [h11, h.sum]
    exact (tot_c (S := S) (S' := arcS S c (S.2 0 1)) (by rw [e2]) (e1 _ (by decide)) (e1 _ (by decide)) (e1 _ (by decide))).symm) ((BB.c (S' := arcS S c (S.2 0 1)) h.2 (by rw [e2]) (e1 _ (by decide)) (e1 _ (by decide)) (e1 _ (by decide))).up (k := n + 1) (by omega))
/-- what is kept as hours pass one by one -/
theorem itP_keep {S : kSt} {kd : Nat → Nat → Int32} (hN : okN S) (hB : BB n S) : ∀ j, tot (itP S kd j) = tot S ∧ BB n (itP S kd j)
  | 0 => ⟨rfl, hB⟩
  | j + 1 => by
    obtain ⟨h1, h2⟩ := itP_keep hN hB j
    have e := (itP_r S kd j).1
    have hN2 : okN (sI (itP S kd j) 0 0 ((itP S kd j).1 0 0 + 1)) := okN_c e hN
    have hB2 : BB n (sI (itP S kd j) 0 0 ((itP S kd j).1 0 0 + 1)) := h2.c rfl (sI_fn (by decide)) (sI_fn (by decide)) (sI_fn (by decide))
    have k := stl_keep hN2 hB2 kd (S.2 0 2) (by show S.2 0 2 ≤ (itP S kd j).2 0 2; rw [e]; exact Nat.le_refl _)
    have t : tot (sI (itP S kd j) 0 0 ((itP S kd j).1 0 0 + 1)) = tot (itP S kd j) := tot_c rfl (sI_fn (by decide)) (sI_fn (by decide)) (sI_fn (by decide))
    exact ⟨k.1.trans (t.trans h1), k.2⟩
theorem Mid.pass (h : Iv n S A) (hn : n ≤ 90) {x : Nat} (h1 : 1 ≤ x) (h2 : x ≤ 1000) (hL : LT (itP S (kdS S) x) A') (h5 : A'.1 11 5 = A.1 11 5) : Mid (n + 1) (oPassC S (nI x)) A' := by
  obtain ⟨T, hT⟩ := h.tie
  obtain ⟨⟨hr, r1, r2⟩, -⟩ := h.1.ok.2.2.2.2.2.2
  have e : oPassC S (nI x) = itP S (kdS S) x := by
    obtain ⟨j, rfl⟩ : ∃ j, x = j + 1 := ⟨x - 1, by omega⟩
    rw [itP_x r2 (fun k hk h12 => hT.2 k hk h12) j (by omega), oPassC, r2, nI_add]
  have z := (t_pass hT (by omega) (nI x) (cPass_v h1 h2).2).1
  rw [e] at z ⊢
  have k := itP_keep (kd := kdS S) h.1.ok.1 h.2 x
  exact Mid.set z hL (by rw [h5, h.sum]; exact k.1.symm) (k.2.up (by omega))
end MID
theorem oEdC_7 {S : kSt} {a : Nat} (ha : a < 2 ^ 31) : (oEdC S (nI a)).1 7 a = S.1 7 a + 1 := by
  have ca : cl (nI a) = a := nI_clamp ha
  unfold oEdC
  rw [ca, drp_fn (by decide)]
  have e : (lgE (oEd1 S (nI a)) (nI a) (-1) 2).1 7 = (oEd1 S (nI a)).1 7 := lgE_1 (by omega)
  rw [e, oEd1, ca, sR_fn (by omega), sI_s]
