/-! THE LAW'S OWN STEPS, further: new users, messages, spends, tasks; edits and marks; sums; what is settled -/
section LTN
variable {M A S : kSt} {n : Nat}
theorem LT.user (h : LT S A) {r cap : Nat} (hr : r < 4) (h8 : S.2 0 0 < 8) : LT (gU S (nI r) cap) (sI (sI (sI A 1 (S.2 0 0) (nI r)) 1 (8 + S.2 0 0) (-1)) 11 1 (nI (S.2 0 0 + 1))) := by
  obtain ⟨⟨g0, g1, g2, g3, g4⟩, ⟨c0, c1, c2, c3⟩, hu, hm, hz, hb, hs, ht⟩ := h
  have e1 : ∀ {f : Nat}, f ≠ 1 ∧ f ≠ 2 ∧ f ≠ 19 → (gU S (nI r) cap).1 f = S.1 f := gU_1
  have a1 : ∀ {f : Nat}, f ≠ 1 ∧ f ≠ 11 → (sI (sI (sI A 1 (S.2 0 0) (nI r)) 1 (8 + S.2 0 0) (-1)) 11 1 (nI (S.2 0 0 + 1))).1 f = A.1 f := fun hf => fn3 ⟨hf.1, hf.1, hf.2⟩
  have u1 : (gU S (nI r) cap).1 1 = (sI S 1 (S.2 0 0) (nI r)).1 1 := by
    show (sI (sN (oUser S (nI r)) 6 1 cap) 19 1 (S.1 19 1 + 1)).1 1 = _
    rw [sI_fn (by decide)]
    show (sI (sI S 1 (S.2 0 0) (nI r)) 2 (S.2 0 0) (-1)).1 1 = _
    rw [sI_fn (by decide)]
  have u2 : (gU S (nI r) cap).1 2 = (sI S 2 (S.2 0 0) (-1)).1 2 := by
    show (sI (sN (oUser S (nI r)) 6 1 cap) 19 1 (S.1 19 1 + 1)).1 2 = _
    rw [sI_fn (by decide)]
    show (sI (sI S 1 (S.2 0 0) (nI r)) 2 (S.2 0 0) (-1)).1 2 = _
    funext q
    by_cases e : q = S.2 0 0
    · rw [e, sI_s, sI_s]
    · rw [sI_n e, sI_n e, sI_f (by decide)]
  refine ⟨⟨?_, ?_, ?_, ?_, ?_⟩, ⟨show S.2 0 0 + 1 ≤ 8 by omega, c1, c2, c3⟩, fun q hq => ?_, hm.c rfl rfl rfl (e1 (by decide)) (e1 (by decide)) (e1 (by decide)) (e1 (by decide)) (kdS_f (fun m => e1 (by omega))) (a1 (by decide)) (a1 (by decide)) (a1 (by decide)) (a1 (by decide)), hz.c (Nat.le_refl _) (a1 (by decide)) (a1 (by decide)), hb.c (e1 (by decide)) (e1 (by decide)) (a1 (by decide)), hs.c rfl rfl (e1 (by decide)) (e1 (by decide)) (e1 (by decide)) (a1 (by decide)) (a1 (by decide)), ht.c rfl rfl rfl (e1 (by decide)) (e1 (by decide)) (e1 (by decide)) (a1 (by decide)) (a1 (by decide))⟩
  · rw [sI_n (by decide), sI_f (by decide), sI_f (by decide), e1 (by decide)]; exact g0
  · rw [sI_s]; rfl
  · rw [sI_n (by decide), sI_f (by decide), sI_f (by decide)]; exact g2
  · rw [sI_n (by decide), sI_f (by decide), sI_f (by decide)]; exact g3
  · rw [sI_n (by decide), sI_f (by decide), sI_f (by decide)]; exact g4
  · have hq : q < S.2 0 0 + 1 := hq
    have w1 : (sI (sI (sI A 1 (S.2 0 0) (nI r)) 1 (8 + S.2 0 0) (-1)) 11 1 (nI (S.2 0 0 + 1))).1 1 = (sI (sI A 1 (S.2 0 0) (nI r)) 1 (8 + S.2 0 0) (-1)).1 1 := sI_fn (by decide)
    rw [u1, u2, w1]
    by_cases e : q = S.2 0 0
    · rw [e]
      refine ⟨?_, ?_, ?_, ?_⟩
      · rw [sI_n (by omega), sI_s, sI_s]
      · rw [sI_s, sI_s]
      · rw [sI_s]; exact ⟨r, hr, rfl⟩
      · rw [sI_s]; exact Or.inl rfl
    · obtain ⟨x1, x2, x3, x4⟩ := hu q (by omega)
      refine ⟨?_, ?_, ?_, ?_⟩
      · rw [sI_n (by omega), sI_n e, sI_n e]; exact x1
      · rw [sI_n (by omega), sI_n (by omega), sI_n e]; exact x2
      · rw [sI_n e]; exact x3
      · rw [sI_n e]; exact x4
theorem LT.post (h : LT S A) {u ch pp cap : Nat} {hr : Nat} (hu8 : u < 8) (hch : ch < 6) (hpp : pp ≤ 30) (h30 : S.2 0 1 < 30) (hhr : hr < 100000) (he : S.1 0 0 = nI hr) : LT (gM S (nI u) (nI ch) (nI pp - 1) cap) (sI (sI (sI A 2 (S.2 0 1) (nI (u + 16 * ch + 128 * pp))) 4 (S.2 0 1) (S.1 0 0)) 11 2 (nI (S.2 0 1 + 1))) := by
  obtain ⟨⟨g0, g1, g2, g3, g4⟩, ⟨c0, c1, c2, c3⟩, hu, hm, hz, hb, hs, ht⟩ := h
  have e1 : ∀ {f : Nat}, (f ≠ 5 ∧ f ≠ 6 ∧ f ≠ 7 ∧ f ≠ 8 ∧ f ≠ 19) → f < 100 → (gM S (nI u) (nI ch) (nI pp - 1) cap).1 f = S.1 f := fun h1 h2 => gM_1 h1 (by omega)
  have a1 : ∀ {f : Nat}, f ≠ 2 ∧ f ≠ 4 ∧ f ≠ 11 → (sI (sI (sI A 2 (S.2 0 1) (nI (u + 16 * ch + 128 * pp))) 4 (S.2 0 1) (S.1 0 0)) 11 2 (nI (S.2 0 1 + 1))).1 f = A.1 f := fun hf => fn3 hf
  have cu : cl (nI u) = u := nI_clamp (by omega)
  have cc : cl (nI ch) = ch := nI_clamp (by omega)
  have p5 : ∀ f, (f = 5 ∨ f = 6) → (gM S (nI u) (nI ch) (nI pp - 1) cap).1 f = (sI (sI S 5 (S.2 0 1) (nI pp - 1)) 6 (S.2 0 1) (S.1 0 0)).1 f := by
    intro f hf
    show (sI (sN (oPo S (nI u) (nI ch) (nI pp - 1)) 6 2 cap) 19 2 (S.1 19 2 + 1)).1 f = _
    rw [sI_fn (by omega)]
    show (sF (sI (sI (oPost S (nI u) (nI ch) (nI pp - 1)) 7 (S.2 0 1) 0) 8 (S.2 0 1) 0) (100 + S.2 0 1) _).1 f = _
    rw [sF_fn (by omega), sI_fn (by omega), sI_fn (by omega)]
    rfl
  have p7 : (gM S (nI u) (nI ch) (nI pp - 1) cap).1 7 = (sI S 7 (S.2 0 1) 0).1 7 := by
    show (sI (sN (oPo S (nI u) (nI ch) (nI pp - 1)) 6 2 cap) 19 2 (S.1 19 2 + 1)).1 7 = _
    rw [sI_fn (by decide)]
    show (sF (sI (sI (oPost S (nI u) (nI ch) (nI pp - 1)) 7 (S.2 0 1) 0) 8 (S.2 0 1) 0) (100 + S.2 0 1) _).1 7 = _
    rw [sF_fn (by omega), sI_fn (by decide)]
    funext q
    by_cases e : q = S.2 0 1
    · rw [e, sI_s, sI_s]
    · rw [sI_n e, sI_n e]
      show (sI (sI S 5 (S.2 0 1) (nI pp - 1)) 6 (S.2 0 1) (S.1 0 0)).1 7 q = _
      rw [sI_f (by decide), sI_f (by decide)]
  have p8 : (gM S (nI u) (nI ch) (nI pp - 1) cap).1 8 = (sI S 8 (S.2 0 1) 0).1 8 := by
    show (sI (sN (oPo S (nI u) (nI ch) (nI pp - 1)) 6 2 cap) 19 2 (S.1 19 2 + 1)).1 8 = _
    rw [sI_fn (by decide)]
    show (sF (sI (sI (oPost S (nI u) (nI ch) (nI pp - 1)) 7 (S.2 0 1) 0) 8 (S.2 0 1) 0) (100 + S.2 0 1) _).1 8 = _
    rw [sF_fn (by omega)]
    funext q
    by_cases e : q = S.2 0 1
    · rw [e, sI_s, sI_s]
    · rw [sI_n e, sI_n e, sI_f (by decide)]
      show (sI (sI S 5 (S.2 0 1) (nI pp - 1)) 6 (S.2 0 1) (S.1 0 0)).1 8 q = _
      rw [sI_f (by decide), sI_f (by decide)]
  have n1s : (gM S (nI u) (nI ch) (nI pp - 1) cap).2 1 (S.2 0 1) = u := by
    show (if (1 : Nat) = 6 ∧ S.2 0 1 = 2 then cap else if (1 : Nat) = 0 ∧ S.2 0 1 = 1 then S.2 0 1 + 1 else if (1 : Nat) = 2 ∧ S.2 0 1 = S.2 0 1 then cl (nI ch) else if (1 : Nat) = 1 ∧ S.2 0 1 = S.2 0 1 then cl (nI u) else S.2 1 (S.2 0 1)) = u
    simp [cu]
  have n1n : ∀ q, q ≠ S.2 0 1 → (gM S (nI u) (nI ch) (nI pp - 1) cap).2 1 q = S.2 1 q := by
    intro q hq
    show (if (1 : Nat) = 6 ∧ q = 2 then cap else if (1 : Nat) = 0 ∧ q = 1 then S.2 0 1 + 1 else if (1 : Nat) = 2 ∧ q = S.2 0 1 then cl (nI ch) else if (1 : Nat) = 1 ∧ q = S.2 0 1 then cl (nI u) else S.2 1 q) = S.2 1 q
    simp [hq]
  have n2s : (gM S (nI u) (nI ch) (nI pp - 1) cap).2 2 (S.2 0 1) = ch := by
    show (if (2 : Nat) = 6 ∧ S.2 0 1 = 2 then cap else if (2 : Nat) = 0 ∧ S.2 0 1 = 1 then S.2 0 1 + 1 else if (2 : Nat) = 2 ∧ S.2 0 1 = S.2 0 1 then cl (nI ch) else if (2 : Nat) = 1 ∧ S.2 0 1 = S.2 0 1 then cl (nI u) else S.2 2 (S.2 0 1)) = ch
    simp [cc]
  have n2n : ∀ q, q ≠ S.2 0 1 → (gM S (nI u) (nI ch) (nI pp - 1) cap).2 2 q = S.2 2 q := by
    intro q hq
    show (if (2 : Nat) = 6 ∧ q = 2 then cap else if (2 : Nat) = 0 ∧ q = 1 then S.2 0 1 + 1 else if (2 : Nat) = 2 ∧ q = S.2 0 1 then cl (nI ch) else if (2 : Nat) = 1 ∧ q = S.2 0 1 then cl (nI u) else S.2 2 q) = S.2 2 q
    simp [hq]
  have kn : ∀ q, q ≠ S.2 0 1 → kdS (gM S (nI u) (nI ch) (nI pp - 1) cap) q = kdS S q := fun q hq => gM_1 (by omega) (by omega)
  have ks : kdS (gM S (nI u) (nI ch) (nI pp - 1) cap) (S.2 0 1) = fun q => if q < 12 then -1 else 0 := gM_hi
  refine ⟨⟨?_, ?_, ?_, ?_, ?_⟩, ⟨c0, show S.2 0 1 + 1 ≤ 30 by omega, c2, c3⟩, hu.c rfl (e1 (by decide) (by decide)) (e1 (by decide) (by decide)) (a1 (by decide)), fun q hq => ?_, fun q h1 h2 => ?_, hb.c (e1 (by decide) (by decide)) (e1 (by decide) (by decide)) (a1 (by decide)), hs.c rfl rfl (e1 (by decide) (by decide)) (e1 (by decide) (by decide)) (e1 (by decide) (by decide)) (a1 (by decide)) (a1 (by decide)), ht.c rfl rfl rfl (e1 (by decide) (by decide)) (e1 (by decide) (by decide)) (e1 (by decide) (by decide)) (a1 (by decide)) (a1 (by decide))⟩
  · rw [sI_n (by decide), sI_f (by decide), sI_f (by decide), e1 (by decide) (by decide)]; exact g0
  · rw [sI_n (by decide), sI_f (by decide), sI_f (by decide)]; exact g1
  · rw [sI_s]; rfl
  · rw [sI_n (by decide), sI_f (by decide), sI_f (by decide)]; exact g3
  · rw [sI_n (by decide), sI_f (by decide), sI_f (by decide)]; exact g4
  · have hq : q < S.2 0 1 + 1 := hq
    by_cases e : q = S.2 0 1
    · rw [e]
      obtain ⟨z1, z2⟩ := hz (S.2 0 1) (Nat.le_refl _) h30
      have r5 : (gM S (nI u) (nI ch) (nI pp - 1) cap).1 5 (S.2 0 1) = nI pp - 1 := by rw [p5 5 (Or.inl rfl), sI_f (by decide), sI_s]
      have r6 : (gM S (nI u) (nI ch) (nI pp - 1) cap).1 6 (S.2 0 1) = S.1 0 0 := by rw [p5 6 (Or.inr rfl), sI_s]
      have r8 : (gM S (nI u) (nI ch) (nI pp - 1) cap).1 8 (S.2 0 1) = 0 := by rw [p8, sI_s]
      have rp : pm (gM S (nI u) (nI ch) (nI pp - 1) cap) (S.2 0 1) = pp := by
        unfold pm
        rw [r5, Int32.sub_add_cancel]
        exact nI_clamp (by omega)
      refine ⟨?_, ?_, ?_, ?_, ?_, ?_, ?_⟩
      · rw [sI_f (by decide), sI_f (by decide), sI_s]
        refine congrArg nI ?_
        unfold encm
        rw [n1s, n2s, rp, r8]
        rfl
      · rw [sI_f (by decide), sI_f (by decide), sI_f (by decide), p7, sI_s]; exact z1
      · rw [sI_f (by decide), sI_s, r6]
      · rw [sI_f (by decide), sI_f (by decide), sI_f (by decide), z2, ks]
        exact ⟨fun _ => 0, fun _ _ => (by decide : (0 : Nat) < 8), rfl, fun w hw => Or.inr (Or.inr ⟨if_pos (by omega), (by decide : (0 : Nat) ≠ 1), (by decide : (0 : Nat) ≠ 2)⟩)⟩
      · rw [rp]; exact ⟨hpp, r5⟩
      · exact Or.inl r8
      · rw [r6]; exact ⟨hr, hhr, he⟩
    · exact LTmj.c (M := S) (A := A) (hm q (by omega)) (n1n q e) (n2n q e) (by rw [p5 5 (Or.inl rfl), sI_f (by decide), sI_n e]) (by rw [p5 6 (Or.inr rfl), sI_n e, sI_f (by decide)]) (by rw [p7, sI_n e]) (by rw [p8, sI_n e]) (kn q e) (by rw [sI_f (by decide), sI_f (by decide), sI_n e]) (by rw [sI_f (by decide), sI_f (by decide), sI_f (by decide)]) (by rw [sI_f (by decide), sI_n e, sI_f (by decide)]) (by rw [sI_f (by decide), sI_f (by decide), sI_f (by decide)])
  · have h1 : S.2 0 1 + 1 ≤ q := h1
    obtain ⟨z1, z2⟩ := hz q (by omega) h2
    exact ⟨by rw [sI_f (by decide), sI_f (by decide), sI_f (by decide)]; exact z1, by rw [sI_f (by decide), sI_f (by decide), sI_f (by decide)]; exact z2⟩
theorem LT.spnd (h : LT S A) {a v cap : Nat} {x : Int32} (ha : a < S.2 0 1) (h3 : S.2 0 2 < 30) (hch : S.2 2 a < 6) (hv : v < 128) (he : S.1 7 a = nI v) : LT (gS S (nI a) x cap) (sI (sI (sI (sI A 7 (S.2 0 2) (nI (a + 64 * v))) 8 (S.2 0 2) x) 6 (S.2 2 a) (S.1 3 (S.2 2 a) - x)) 11 3 (nI (S.2 0 2 + 1))) := by
  have hcc := h.c.2.1
  obtain ⟨⟨g0, g1, g2, g3, g4⟩, ⟨c0, c1, c2, c3⟩, hu, hm, hz, hb, hs, ht⟩ := h
  have ca : cl (nI a) = a := nI_clamp (by omega)
  have e1 : ∀ {f : Nat}, f ≠ 3 ∧ f ≠ 10 ∧ f ≠ 11 ∧ f ≠ 12 ∧ f ≠ 19 → (gS S (nI a) x cap).1 f = S.1 f := gS_1
  have a1 : ∀ {f : Nat}, f ≠ 7 ∧ f ≠ 8 ∧ f ≠ 6 ∧ f ≠ 11 → (sI (sI (sI (sI A 7 (S.2 0 2) (nI (a + 64 * v))) 8 (S.2 0 2) x) 6 (S.2 2 a) (S.1 3 (S.2 2 a) - x)) 11 3 (nI (S.2 0 2 + 1))).1 f = A.1 f := fun hf => (sI_fn hf.2.2.2).trans (fn3 ⟨hf.1, hf.2.1, hf.2.2.1⟩)
  have q3 : (gS S (nI a) x cap).1 3 = (sI S 3 (S.2 2 a) (S.1 3 (S.2 2 a) - x)).1 3 := by
    show (sI (sN (oSpend S (nI a) x) 6 3 cap) 19 3 (S.1 19 3 + 1)).1 3 = _
    rw [sI_fn (by decide)]
    show (oSpend S (nI a) x).1 3 = _
    rw [oSpend_1, ca]
    funext q
    by_cases e : q = S.2 2 a
    · rw [e, sI_s, sI_s]
    · rw [sI_n e, sI_n e, sI_f (by decide), sI_f (by decide), sI_f (by decide)]
  have q10 : ∀ f, f = 10 ∨ f = 11 ∨ f = 12 → (gS S (nI a) x cap).1 f = (sI (sI (sI S 10 (S.2 0 2) (S.1 7 a)) 11 (S.2 0 2) x) 12 (S.2 0 2) 0).1 f := by
    intro f hf
    show (sI (sN (oSpend S (nI a) x) 6 3 cap) 19 3 (S.1 19 3 + 1)).1 f = _
    rw [sI_fn (by omega)]
    show (oSpend S (nI a) x).1 f = _
    rw [oSpend_1, ca, sI_fn (by omega)]
  have n3s : (gS S (nI a) x cap).2 3 (S.2 0 2) = a := by
    show (if (3 : Nat) = 6 ∧ S.2 0 2 = 3 then cap else if (3 : Nat) = 0 ∧ S.2 0 2 = 2 then S.2 0 2 + 1 else if (3 : Nat) = 3 ∧ S.2 0 2 = S.2 0 2 then cl (nI a) else S.2 3 (S.2 0 2)) = a
    simp [ca]
  have n3n : ∀ q, q ≠ S.2 0 2 → (gS S (nI a) x cap).2 3 q = S.2 3 q := by
    intro q hq
    show (if (3 : Nat) = 6 ∧ q = 3 then cap else if (3 : Nat) = 0 ∧ q = 2 then S.2 0 2 + 1 else if (3 : Nat) = 3 ∧ q = S.2 0 2 then cl (nI a) else S.2 3 q) = S.2 3 q
    simp [hq]
  refine ⟨⟨?_, ?_, ?_, ?_, ?_⟩, ⟨c0, c1, show S.2 0 2 + 1 ≤ 30 by omega, c3⟩, hu.c rfl (e1 (by decide)) (e1 (by decide)) (a1 (by decide)), hm.c rfl rfl rfl (e1 (by decide)) (e1 (by decide)) (e1 (by decide)) (e1 (by decide)) (kdS_f (fun m => e1 (by omega))) (a1 (by decide)) (a1 (by decide)) (a1 (by decide)) (a1 (by decide)), hz.c (Nat.le_refl _) (a1 (by decide)) (a1 (by decide)), fun q hq => ?_, fun q hq => ?_, ht.c rfl rfl rfl (e1 (by decide)) (e1 (by decide)) (e1 (by decide)) (a1 (by decide)) (a1 (by decide))⟩
  · rw [sI_n (by decide), sI_f (by decide), sI_f (by decide), sI_f (by decide), e1 (by decide)]; exact g0
  · rw [sI_n (by decide), sI_f (by decide), sI_f (by decide), sI_f (by decide)]; exact g1
  · rw [sI_n (by decide), sI_f (by decide), sI_f (by decide), sI_f (by decide)]; exact g2
  · rw [sI_s]; rfl
  · rw [sI_n (by decide), sI_f (by decide), sI_f (by decide), sI_f (by decide)]; exact g4
  · obtain ⟨b1, b2, b3⟩ := hb q hq
    rw [q3, e1 (by decide)]
    refine ⟨?_, ?_, b3⟩
    · rw [sI_f (by decide)]
      by_cases e : q = S.2 2 a
      · rw [e, sI_s, sI_s]
      · rw [sI_n e, sI_n e, sI_f (by decide), sI_f (by decide)]; exact b1
    · rw [sI_f (by decide), sI_n (by omega), sI_f (by decide), sI_f (by decide)]; exact b2
  · have hq : q < S.2 0 2 + 1 := hq
    by_cases e : q = S.2 0 2
    · rw [e]
      have r10 : (gS S (nI a) x cap).1 10 (S.2 0 2) = nI v := by rw [q10 10 (Or.inl rfl), sI_f (by decide), sI_f (by decide), sI_s, he]
      have r11 : (gS S (nI a) x cap).1 11 (S.2 0 2) = x := by rw [q10 11 (Or.inr (Or.inl rfl)), sI_f (by decide), sI_s]
      have r12 : (gS S (nI a) x cap).1 12 (S.2 0 2) = 0 := by rw [q10 12 (Or.inr (Or.inr rfl)), sI_s]
      refine ⟨?_, ?_, ⟨v, hv, r10⟩, Or.inl r12⟩
      · rw [sI_f (by decide), sI_f (by decide), sI_f (by decide), sI_s]
        refine congrArg nI ?_
        unfold encs
        rw [n3s, r10, r12, show (nI v).toNatClampNeg = v from nI_clamp (by omega)]
        rfl
      · rw [sI_f (by decide), sI_f (by decide), sI_s, r11]
    · exact LTsj.c (M := S) (A := A) (hs q (by omega)) (n3n q e) (by rw [q10 10 (Or.inl rfl), sI_f (by decide), sI_f (by decide), sI_n e]) (by rw [q10 11 (Or.inr (Or.inl rfl)), sI_f (by decide), sI_n e, sI_f (by decide)]) (by rw [q10 12 (Or.inr (Or.inr rfl)), sI_n e, sI_f (by decide), sI_f (by decide)]) (by rw [sI_f (by decide), sI_f (by decide), sI_f (by decide), sI_n e]) (by rw [sI_f (by decide), sI_f (by decide), sI_n e, sI_f (by decide)])
theorem LT.task (h : LT S A) {a v w cap : Nat} {x : Int32} (ha : a < S.2 0 1) (h3 : S.2 0 3 < 30) (hw : w < 8) (hv : v < 128) (he : S.1 7 a = nI v) : LT (gT S (nI a) (nI w) x cap) (sI (sI (sI A 9 (S.2 0 3) (nI (a + 64 * v + 8192 * w))) 10 (S.2 0 3) (S.1 0 0 + x)) 11 4 (nI (S.2 0 3 + 1))) := by
  have hcc := h.c.2.1
  obtain ⟨⟨g0, g1, g2, g3, g4⟩, ⟨c0, c1, c2, c3⟩, hu, hm, hz, hb, hs, ht⟩ := h
  have ca : cl (nI a) = a := nI_clamp (by omega)
  have cw : cl (nI w) = w := nI_clamp (by omega)
  have e1 : ∀ {f : Nat}, f ≠ 13 ∧ f ≠ 14 ∧ f ≠ 19 ∧ f ≠ 20 → (gT S (nI a) (nI w) x cap).1 f = S.1 f := gT_1
  have a1 : ∀ {f : Nat}, f ≠ 9 ∧ f ≠ 10 ∧ f ≠ 11 → (sI (sI (sI A 9 (S.2 0 3) (nI (a + 64 * v + 8192 * w))) 10 (S.2 0 3) (S.1 0 0 + x)) 11 4 (nI (S.2 0 3 + 1))).1 f = A.1 f := fun hf => fn3 hf
  have q10 : ∀ f, f = 20 ∨ f = 13 ∨ f = 14 → (gT S (nI a) (nI w) x cap).1 f = (sI (sI (sI S 20 (S.2 0 3) (S.1 7 a)) 13 (S.2 0 3) (S.1 0 0 + x)) 14 (S.2 0 3) 0).1 f := by
    intro f hf
    show (sI (sN (oTask S (nI a) (nI w) x) 6 4 cap) 19 4 (S.1 19 4 + 1)).1 f = _
    rw [sI_fn (by omega)]
    show (oTask S (nI a) (nI w) x).1 f = _
    rw [oTask_1, ca]
  have n4s : (gT S (nI a) (nI w) x cap).2 4 (S.2 0 3) = a := by
    show (if (4 : Nat) = 6 ∧ S.2 0 3 = 4 then cap else if (4 : Nat) = 0 ∧ S.2 0 3 = 3 then S.2 0 3 + 1 else if (4 : Nat) = 5 ∧ S.2 0 3 = S.2 0 3 then cl (nI w) else if (4 : Nat) = 4 ∧ S.2 0 3 = S.2 0 3 then cl (nI a) else S.2 4 (S.2 0 3)) = a
    simp [ca]
  have n4n : ∀ q, q ≠ S.2 0 3 → (gT S (nI a) (nI w) x cap).2 4 q = S.2 4 q := by
    intro q hq
    show (if (4 : Nat) = 6 ∧ q = 4 then cap else if (4 : Nat) = 0 ∧ q = 3 then S.2 0 3 + 1 else if (4 : Nat) = 5 ∧ q = S.2 0 3 then cl (nI w) else if (4 : Nat) = 4 ∧ q = S.2 0 3 then cl (nI a) else S.2 4 q) = S.2 4 q
    simp [hq]
  have n5s : (gT S (nI a) (nI w) x cap).2 5 (S.2 0 3) = w := by
    show (if (5 : Nat) = 6 ∧ S.2 0 3 = 4 then cap else if (5 : Nat) = 0 ∧ S.2 0 3 = 3 then S.2 0 3 + 1 else if (5 : Nat) = 5 ∧ S.2 0 3 = S.2 0 3 then cl (nI w) else if (5 : Nat) = 4 ∧ S.2 0 3 = S.2 0 3 then cl (nI a) else S.2 5 (S.2 0 3)) = w
    simp [cw]
  have n5n : ∀ q, q ≠ S.2 0 3 → (gT S (nI a) (nI w) x cap).2 5 q = S.2 5 q := by
    intro q hq
    show (if (5 : Nat) = 6 ∧ q = 4 then cap else if (5 : Nat) = 0 ∧ q = 3 then S.2 0 3 + 1 else if (5 : Nat) = 5 ∧ q = S.2 0 3 then cl (nI w) else if (5 : Nat) = 4 ∧ q = S.2 0 3 then cl (nI a) else S.2 5 q) = S.2 5 q
    simp [hq]
  refine ⟨⟨?_, ?_, ?_, ?_, ?_⟩, ⟨c0, c1, c2, show S.2 0 3 + 1 ≤ 30 by omega⟩, hu.c rfl (e1 (by decide)) (e1 (by decide)) (a1 (by decide)), hm.c rfl rfl rfl (e1 (by decide)) (e1 (by decide)) (e1 (by decide)) (e1 (by decide)) (kdS_f (fun m => e1 (by omega))) (a1 (by decide)) (a1 (by decide)) (a1 (by decide)) (a1 (by decide)), hz.c (Nat.le_refl _) (a1 (by decide)) (a1 (by decide)), hb.c (e1 (by decide)) (e1 (by decide)) (a1 (by decide)), hs.c rfl rfl (e1 (by decide)) (e1 (by decide)) (e1 (by decide)) (a1 (by decide)) (a1 (by decide)), fun q hq => ?_⟩
  · rw [sI_n (by decide), sI_f (by decide), sI_f (by decide), e1 (by decide)]; exact g0
  · rw [sI_n (by decide), sI_f (by decide), sI_f (by decide)]; exact g1
  · rw [sI_n (by decide), sI_f (by decide), sI_f (by decide)]; exact g2
  · rw [sI_n (by decide), sI_f (by decide), sI_f (by decide)]; exact g3
  · rw [sI_s]; rfl
  · have hq : q < S.2 0 3 + 1 := hq
    by_cases e : q = S.2 0 3
    · rw [e]
      have r20 : (gT S (nI a) (nI w) x cap).1 20 (S.2 0 3) = nI v := by rw [q10 20 (Or.inl rfl), sI_f (by decide), sI_f (by decide), sI_s, he]
      have r13 : (gT S (nI a) (nI w) x cap).1 13 (S.2 0 3) = S.1 0 0 + x := by rw [q10 13 (Or.inr (Or.inl rfl)), sI_f (by decide), sI_s]
      have r14 : (gT S (nI a) (nI w) x cap).1 14 (S.2 0 3) = 0 := by rw [q10 14 (Or.inr (Or.inr rfl)), sI_s]
      refine ⟨?_, ?_, ⟨v, hv, r20⟩, ⟨0, by decide, r14⟩⟩
      · rw [sI_f (by decide), sI_f (by decide), sI_s]
        refine congrArg nI ?_
        unfold enct
        rw [n4s, n5s, r20, r14, show (nI v).toNatClampNeg = v from nI_clamp (by omega)]
        rfl
      · rw [sI_f (by decide), sI_s, r13]
    · exact LTtj.c (M := S) (A := A) (ht q (by omega)) (n4n q e) (n5n q e) (by rw [q10 13 (Or.inr (Or.inl rfl)), sI_f (by decide), sI_n e, sI_f (by decide)]) (by rw [q10 14 (Or.inr (Or.inr rfl)), sI_n e, sI_f (by decide), sI_f (by decide)]) (by rw [q10 20 (Or.inl rfl), sI_f (by decide), sI_f (by decide), sI_n e]) (by rw [sI_f (by decide), sI_f (by decide), sI_n e]) (by rw [sI_f (by decide), sI_n e, sI_f (by decide)])
end LTN
