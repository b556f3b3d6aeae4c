/-! GROWING WORLDS -/
/-- the tags that hold something -/
def live (S : kSt) (k i : Nat) : Prop := match k with
  | 1 => i < 5
  | 2 => i < 5 ∧ S.2 6 i ≠ 0
  | 3 => i < 6
  | 4 => i < S.2 0 0
  | 5 => i < S.2 0 1
  | 6 => i < S.2 0 1
  | 7 => i < S.2 0 1
  | 8 => i < S.2 0 2
  | 9 => i < S.2 0 3
  | 10 => i < S.2 0 3
  | 11 => i < S.2 0 3
  | 12 => i = 0
  | 13 => i < 3
  | 14 => i = 0
  | 15 => i = 0
  | 17 => True
  | _ => False
theorem live_l {S : kSt} {l j : Nat} (hl : l < 5) (hj : j < lcnt S l) : live S (lknd l) j := by
  match l, hl with
  | 0, _ => exact hj
  | 1, _ => exact hj
  | 2, _ => exact hj
  | 3, _ => exact hj
  | 4, _ => exact hj
theorem cto_ad {G : kG} {S T : kSt} {o : Int64} {ad ad' : kAd} (hS : okN S) (hk : ∀ k i, live S k i → ad' k i = ad k i) : cto G S T o ad = cto G S T o ad' := by
  obtain ⟨h1, h2, h3, h4, h5, h6, h7⟩ := hS
  funext k i
  match k with
  | 0 => simp only [cto]; rw [hk 1 0 (show (0 : Nat) < 5 by decide), hk 1 1 (show (1 : Nat) < 5 by decide), hk 1 2 (show (2 : Nat) < 5 by decide), hk 1 3 (show (3 : Nat) < 5 by decide), hk 1 4 (show (4 : Nat) < 5 by decide), hk 12 0 rfl, hk 14 0 rfl]
  | 1 =>
    simp only [cto]
    by_cases h : i < 5
    · rw [if_pos h, if_pos h]
      by_cases h0 : S.2 6 i = 0
      · rw [if_pos h0, if_pos h0]
      · rw [if_neg h0, if_neg h0, hk 2 i ⟨h, h0⟩]
    · rw [if_neg h, if_neg h]
  | 2 =>
    simp only [cto]
    by_cases h : i < 5 ∧ S.2 6 i ≠ 0
    · rw [if_pos h, if_pos h]
      congr 8
      funext j
      by_cases hj : j < lcnt S i
      · rw [if_pos hj, if_pos hj, hk _ j (live_l h.1 hj)]
      · rw [if_neg hj, if_neg hj]
    · rw [if_neg h, if_neg h]
  | 3 => simp only [cto]
  | 4 => simp only [cto]
  | 5 =>
    simp only [cto]
    by_cases h : i < S.2 0 1
    · rw [if_pos h, if_pos h, hk 4 _ (h5 i h).1, hk 3 _ (h5 i h).2, hk 6 i h]
    · rw [if_neg h, if_neg h]
  | 6 =>
    simp only [cto]
    by_cases h : i < S.2 0 1
    · rw [if_pos h, if_pos h, hk 7 i h]
    · rw [if_neg h, if_neg h]
  | 7 => simp only [cto]
  | 8 =>
    simp only [cto]
    by_cases h : i < S.2 0 2
    · rw [if_pos h, if_pos h, hk 5 _ (h6 i h)]
    · rw [if_neg h, if_neg h]
  | 9 =>
    simp only [cto]
    by_cases h : i < S.2 0 3
    · rw [if_pos h, if_pos h, hk 4 _ (h7 i h).2, hk 10 i h]
    · rw [if_neg h, if_neg h]
  | 10 =>
    simp only [cto]
    by_cases h : i < S.2 0 3
    · rw [if_pos h, if_pos h, hk 11 i h]
    · rw [if_neg h, if_neg h]
  | 11 => simp only [cto]
  | 12 => simp only [cto]; rw [hk 13 0 (show (0 : Nat) < 3 by decide), hk 13 1 (show (1 : Nat) < 3 by decide), hk 13 2 (show (2 : Nat) < 3 by decide)]
  | 13 => simp only [cto]
  | 14 => simp only [cto]; rw [hk 15 0 rfl]
  | 15 => simp only [cto]
  | 16 => simp only [cto]
  | 17 => simp only [cto]
  | 18 => simp only [cto]
  | k + 19 => simp only [cto]
section GROW
variable {G : kG} {S S' T : kSt} {o : Int64} {ad : kAd} {cap : Nat} {mo : Int32}
set_option maxHeartbeats 1000000 in
theorem grow_user (x : Int32) (r0 : S'.1 0 = S.1 0) (r3 : S'.1 3 = S.1 3) (r4 : S'.1 4 = S.1 4) (r5 : S'.1 5 = S.1 5) (r6 : S'.1 6 = S.1 6) (r7 : S'.1 7 = S.1 7) (r8 : S'.1 8 = S.1 8) (r10 : S'.1 10 = S.1 10) (r11 : S'.1 11 = S.1 11) (r12 : S'.1 12 = S.1 12) (r13 : S'.1 13 = S.1 13) (r14 : S'.1 14 = S.1 14) (r15 : S'.1 15 = S.1 15) (r16 : S'.1 16 = S.1 16) (r17 : S'.1 17 = S.1 17) (r18 : S'.1 18 = S.1 18) (r20 : S'.1 20 = S.1 20) (v1 : S'.1 1 (S.2 0 0) = x) (w1 : ∀ i, i < (S.2 0 0) → S'.1 1 i = S.1 1 i) (v2 : S'.1 2 (S.2 0 0) = (-1)) (w2 : ∀ i, i < (S.2 0 0) → S'.1 2 i = S.1 2 i) (g1 : S'.2 1 = S.2 1) (g2 : S'.2 2 = S.2 2) (g3 : S'.2 3 = S.2 3) (g4 : S'.2 4 = S.2 4) (g5 : S'.2 5 = S.2 5) (n0 : S'.2 0 0 = S.2 0 0 + 1) (n1 : S'.2 0 1 = S.2 0 1) (n2 : S'.2 0 2 = S.2 0 2) (n3 : S'.2 0 3 = S.2 0 3) (n4 : S'.2 0 4 = S.2 0 4) (c1 : S'.2 6 1 = cap) (c2 : ∀ i, i ≠ 1 → S'.2 6 i = S.2 6 i) (c0 : cap ≠ 0) (m1 : S'.1 19 1 = mo) (m2 : ∀ i, i ≠ 1 → S'.1 19 i = S.1 19 i) (q2 : ∀ i, S'.1 (100 + i) = S.1 (100 + i)) : cup (cup (cup (cto G S T o ad) 4 (S.2 0 0) (.inr (9, [.int (nI (S.2 0 0)), .int x, .int (-1)]))) 2 1 (kOa G cap (kUp (fun j => if j < (S.2 0 0) then some (ad 4 j) else none) (S.2 0 0) (ad 4 (S.2 0 0))))) 1 1 (.inr (2, [.int mo, .ref (ad 2 1), .int (nI ((S.2 0 0) + 1))])) = cto G S' T o ad := by
  have hl : ∀ i, i ≠ 1 → i < 5 → lcnt S' i = lcnt S i := by
    intro i hi h5
    match i, h5 with
    | 0, _ => rfl
    | 1, _ => exact absurd rfl hi
    | 2, _ => exact n1
    | 3, _ => exact n2
    | 4, _ => exact n3
  have hl1 : lcnt S' 1 = (S.2 0 0) + 1 := n0
  funext k i
  match k with
  | 0 => rw [cup_n (fun z => absurd z.1 (by decide)), cup_n (fun z => absurd z.1 (by decide)), cup_n (fun z => absurd z.1 (by decide))]; simp only [cto, r0]
  | 1 =>
    by_cases h : i = 1
    · subst h; rw [cup_s]; simp only [cto]; rw [if_pos (by decide), hl1, m1, c1, if_neg c0]
    · rw [cup_n (fun z => h z.2), cup_n (fun z => absurd z.1 (by decide)), cup_n (fun z => absurd z.1 (by decide))]; simp only [cto]; by_cases h5 : i < 5
      · rw [if_pos h5, if_pos h5, hl i h h5, m2 i h, c2 i h]
      · rw [if_neg h5, if_neg h5]
  | 2 =>
    by_cases h : i = 1
    · subst h; rw [cup_n (fun z => absurd z.1 (by decide)), cup_s]; simp only [cto]; rw [if_pos ⟨by decide, by rw [c1]; exact c0⟩, hl1, c1]
      congr 7
      funext j
      simp only [kUp, lknd]
      by_cases hj : j < (S.2 0 0)
      · rw [if_pos hj, if_pos hj, if_pos (by omega)]
      · by_cases hj2 : j = (S.2 0 0)
        · subst hj2; rw [if_neg hj, if_pos rfl, if_pos (by omega)]
        · rw [if_neg hj, if_neg hj2, if_neg (by omega)]
    · rw [cup_n (fun z => absurd z.1 (by decide)), cup_n (fun z => h z.2), cup_n (fun z => absurd z.1 (by decide))]; simp only [cto]; by_cases h5 : i < 5
      · rw [hl i h h5, c2 i h]
      · rw [if_neg (fun z => h5 z.1), if_neg (fun z => h5 z.1)]
  | 3 => rw [cup_n (fun z => absurd z.1 (by decide)), cup_n (fun z => absurd z.1 (by decide)), cup_n (fun z => absurd z.1 (by decide))]; simp only [cto, r3, r4]
  | 4 =>
    by_cases h : i = (S.2 0 0)
    · subst h; rw [cup_n (fun z => absurd z.1 (by decide)), cup_n (fun z => absurd z.1 (by decide)), cup_s]; simp only [cto]; rw [if_pos (by omega), v1, v2]
    · rw [cup_n (fun z => absurd z.1 (by decide)), cup_n (fun z => absurd z.1 (by decide)), cup_n (fun z => h z.2)]; simp only [cto]; by_cases h5 : i < (S.2 0 0)
      · rw [if_pos h5, if_pos (by omega), w1 i h5, w2 i h5]
      · rw [if_neg h5, if_neg (by omega)]
  | 5 => rw [cup_n (fun z => absurd z.1 (by decide)), cup_n (fun z => absurd z.1 (by decide)), cup_n (fun z => absurd z.1 (by decide))]; simp only [cto, n1, g1, g2, r5, r6, r7, r8]
  | 6 => rw [cup_n (fun z => absurd z.1 (by decide)), cup_n (fun z => absurd z.1 (by decide)), cup_n (fun z => absurd z.1 (by decide))]; simp only [cto, n1]
  | 7 => rw [cup_n (fun z => absurd z.1 (by decide)), cup_n (fun z => absurd z.1 (by decide)), cup_n (fun z => absurd z.1 (by decide))]; simp only [cto, n1]; rw [q2 i]
  | 8 => rw [cup_n (fun z => absurd z.1 (by decide)), cup_n (fun z => absurd z.1 (by decide)), cup_n (fun z => absurd z.1 (by decide))]; simp only [cto, n2, g3, r10, r11, r12]
  | 9 => rw [cup_n (fun z => absurd z.1 (by decide)), cup_n (fun z => absurd z.1 (by decide)), cup_n (fun z => absurd z.1 (by decide))]; simp only [cto, n3, g4, g5, r13, r14]
  | 10 => rw [cup_n (fun z => absurd z.1 (by decide)), cup_n (fun z => absurd z.1 (by decide)), cup_n (fun z => absurd z.1 (by decide))]; simp only [cto, n3]
  | 11 => rw [cup_n (fun z => absurd z.1 (by decide)), cup_n (fun z => absurd z.1 (by decide)), cup_n (fun z => absurd z.1 (by decide))]; simp only [cto, lab, n3, g4, g5, r13, r20]
  | 12 => rw [cup_n (fun z => absurd z.1 (by decide)), cup_n (fun z => absurd z.1 (by decide)), cup_n (fun z => absurd z.1 (by decide))]; simp only [cto, n4]
  | 13 => rw [cup_n (fun z => absurd z.1 (by decide)), cup_n (fun z => absurd z.1 (by decide)), cup_n (fun z => absurd z.1 (by decide))]; exact (ctE_13 (fun h => by match i, h with | 0, _ => exact r15 | 1, _ => exact r16 | 2, _ => exact r17)).symm
  | 14 => rw [cup_n (fun z => absurd z.1 (by decide)), cup_n (fun z => absurd z.1 (by decide)), cup_n (fun z => absurd z.1 (by decide))]; simp only [cto]
  | 15 => rw [cup_n (fun z => absurd z.1 (by decide)), cup_n (fun z => absurd z.1 (by decide)), cup_n (fun z => absurd z.1 (by decide))]; simp only [cto, r18]
  | 16 => rw [cup_n (fun z => absurd z.1 (by decide)), cup_n (fun z => absurd z.1 (by decide)), cup_n (fun z => absurd z.1 (by decide))]; simp only [cto]
  | 17 => rw [cup_n (fun z => absurd z.1 (by decide)), cup_n (fun z => absurd z.1 (by decide)), cup_n (fun z => absurd z.1 (by decide))]; simp only [cto]
  | 18 => rw [cup_n (fun z => absurd z.1 (by decide)), cup_n (fun z => absurd z.1 (by decide)), cup_n (fun z => absurd z.1 (by decide))]; simp only [cto]
  | k + 19 => rw [cup_n (fun z => by have := z.1; omega), cup_n (fun z => by have := z.1; omega), cup_n (fun z => by have := z.1; omega)]; simp only [cto]
set_option maxHeartbeats 1000000 in
theorem grow_msg (u c : Nat) (p h : Int32) (r0 : S'.1 0 = S.1 0) (r1 : S'.1 1 = S.1 1) (r2 : S'.1 2 = S.1 2) (r3 : S'.1 3 = S.1 3) (r4 : S'.1 4 = S.1 4) (r10 : S'.1 10 = S.1 10) (r11 : S'.1 11 = S.1 11) (r12 : S'.1 12 = S.1 12) (r13 : S'.1 13 = S.1 13) (r14 : S'.1 14 = S.1 14) (r15 : S'.1 15 = S.1 15) (r16 : S'.1 16 = S.1 16) (r17 : S'.1 17 = S.1 17) (r18 : S'.1 18 = S.1 18) (r20 : S'.1 20 = S.1 20) (v5 : S'.1 5 (S.2 0 1) = p) (w5 : ∀ i, i < (S.2 0 1) → S'.1 5 i = S.1 5 i) (v6 : S'.1 6 (S.2 0 1) = h) (w6 : ∀ i, i < (S.2 0 1) → S'.1 6 i = S.1 6 i) (v7 : S'.1 7 (S.2 0 1) = 0) (w7 : ∀ i, i < (S.2 0 1) → S'.1 7 i = S.1 7 i) (v8 : S'.1 8 (S.2 0 1) = 0) (w8 : ∀ i, i < (S.2 0 1) → S'.1 8 i = S.1 8 i) (g3 : S'.2 3 = S.2 3) (g4 : S'.2 4 = S.2 4) (g5 : S'.2 5 = S.2 5) (gv1 : S'.2 1 (S.2 0 1) = u) (gw1 : ∀ i, i < (S.2 0 1) → S'.2 1 i = S.2 1 i) (gv2 : S'.2 2 (S.2 0 1) = c) (gw2 : ∀ i, i < (S.2 0 1) → S'.2 2 i = S.2 2 i) (n0 : S'.2 0 0 = S.2 0 0) (n1 : S'.2 0 1 = S.2 0 1 + 1) (n2 : S'.2 0 2 = S.2 0 2) (n3 : S'.2 0 3 = S.2 0 3) (n4 : S'.2 0 4 = S.2 0 4) (c1 : S'.2 6 2 = cap) (c2 : ∀ i, i ≠ 2 → S'.2 6 i = S.2 6 i) (c0 : cap ≠ 0) (m1 : S'.1 19 2 = mo) (m2 : ∀ i, i ≠ 2 → S'.1 19 i = S.1 19 i) (q1 : S'.1 (100 + (S.2 0 1)) = fun q => if q < 12 then -1 else 0) (q2 : ∀ i, i < (S.2 0 1) → S'.1 (100 + i) = S.1 (100 + i)) : cup (cup (cup (cup (cup (cto G S T o ad) 6 (S.2 0 1) (.inr (5, [.ref (ad 7 (S.2 0 1))]))) 7 (S.2 0 1) (.inl (G.2.2.1, 12, .inl (fun q => if q < 12 then -1 else 0)))) 5 (S.2 0 1) (.inr (6, [.int (nI (S.2 0 1)), .ref (ad 4 u), .ref (ad 3 c), .int p, .int h, .ref (ad 6 (S.2 0 1)), .int 0, .int 0]))) 2 2 (kOa G cap (kUp (fun j => if j < (S.2 0 1) then some (ad 5 j) else none) (S.2 0 1) (ad 5 (S.2 0 1))))) 1 2 (.inr (2, [.int mo, .ref (ad 2 2), .int (nI ((S.2 0 1) + 1))])) = cto G S' T o ad := by
  have hl : ∀ i, i ≠ 2 → i < 5 → lcnt S' i = lcnt S i := by
    intro i hi h5
    match i, h5 with
    | 0, _ => rfl
    | 1, _ => exact n0
    | 2, _ => exact absurd rfl hi
    | 3, _ => exact n2
    | 4, _ => exact n3
  have hl1 : lcnt S' 2 = (S.2 0 1) + 1 := n1
  funext k i
  match k with
  | 0 => rw [cup_n (fun z => absurd z.1 (by decide)), cup_n (fun z => absurd z.1 (by decide)), cup_n (fun z => absurd z.1 (by decide)), cup_n (fun z => absurd z.1 (by decide)), cup_n (fun z => absurd z.1 (by decide))]; simp only [cto, r0]
  | 1 =>
    by_cases h : i = 2
    · subst h; rw [cup_s]; simp only [cto]; rw [if_pos (by decide), hl1, m1, c1, if_neg c0]
    · rw [cup_n (fun z => h z.2), cup_n (fun z => absurd z.1 (by decide)), cup_n (fun z => absurd z.1 (by decide)), cup_n (fun z => absurd z.1 (by decide)), cup_n (fun z => absurd z.1 (by decide))]; simp only [cto]; by_cases h5 : i < 5
      · rw [if_pos h5, if_pos h5, hl i h h5, m2 i h, c2 i h]
      · rw [if_neg h5, if_neg h5]
  | 2 =>
    by_cases h : i = 2
    · subst h; rw [cup_n (fun z => absurd z.1 (by decide)), cup_s]; simp only [cto]; rw [if_pos ⟨by decide, by rw [c1]; exact c0⟩, hl1, c1]
      congr 7
      funext j
      simp only [kUp, lknd]
      by_cases hj : j < (S.2 0 1)
      · rw [if_pos hj, if_pos hj, if_pos (by omega)]
      · by_cases hj2 : j = (S.2 0 1)
        · subst hj2; rw [if_neg hj, if_pos rfl, if_pos (by omega)]
        · rw [if_neg hj, if_neg hj2, if_neg (by omega)]
    · rw [cup_n (fun z => absurd z.1 (by decide)), cup_n (fun z => h z.2), cup_n (fun z => absurd z.1 (by decide)), cup_n (fun z => absurd z.1 (by decide)), cup_n (fun z => absurd z.1 (by decide))]; simp only [cto]; by_cases h5 : i < 5
      · rw [hl i h h5, c2 i h]
      · rw [if_neg (fun z => h5 z.1), if_neg (fun z => h5 z.1)]
  | 3 => rw [cup_n (fun z => absurd z.1 (by decide)), cup_n (fun z => absurd z.1 (by decide)), cup_n (fun z => absurd z.1 (by decide)), cup_n (fun z => absurd z.1 (by decide)), cup_n (fun z => absurd z.1 (by decide))]; simp only [cto, r3, r4]
  | 4 => rw [cup_n (fun z => absurd z.1 (by decide)), cup_n (fun z => absurd z.1 (by decide)), cup_n (fun z => absurd z.1 (by decide)), cup_n (fun z => absurd z.1 (by decide)), cup_n (fun z => absurd z.1 (by decide))]; simp only [cto, n0, r1, r2]
  | 5 =>
    by_cases h : i = (S.2 0 1)
    · subst h; rw [cup_n (fun z => absurd z.1 (by decide)), cup_n (fun z => absurd z.1 (by decide)), cup_s]; simp only [cto]; rw [if_pos (by omega), gv1, gv2, v5, v6, v7, v8]
    · rw [cup_n (fun z => absurd z.1 (by decide)), cup_n (fun z => absurd z.1 (by decide)), cup_n (fun z => h z.2), cup_n (fun z => absurd z.1 (by decide)), cup_n (fun z => absurd z.1 (by decide))]; simp only [cto]; by_cases h5 : i < (S.2 0 1)
      · rw [if_pos h5, if_pos (by omega), gw1 i h5, gw2 i h5, w5 i h5, w6 i h5, w7 i h5, w8 i h5]
      · rw [if_neg h5, if_neg (by omega)]
  | 6 =>
    by_cases h : i = (S.2 0 1)
    · subst h; rw [cup_n (fun z => absurd z.1 (by decide)), cup_n (fun z => absurd z.1 (by decide)), cup_n (fun z => absurd z.1 (by decide)), cup_n (fun z => absurd z.1 (by decide)), cup_s]; simp only [cto]; rw [if_pos (by omega)]
    · rw [cup_n (fun z => absurd z.1 (by decide)), cup_n (fun z => absurd z.1 (by decide)), cup_n (fun z => absurd z.1 (by decide)), cup_n (fun z => absurd z.1 (by decide)), cup_n (fun z => h z.2)]; simp only [cto]; by_cases h5 : i < (S.2 0 1)
      · rw [if_pos h5, if_pos (by omega)]
      · rw [if_neg h5, if_neg (by omega)]
  | 7 =>
    by_cases h : i = (S.2 0 1)
    · subst h; rw [cup_n (fun z => absurd z.1 (by decide)), cup_n (fun z => absurd z.1 (by decide)), cup_n (fun z => absurd z.1 (by decide)), cup_s]; simp only [cto]; rw [if_pos (by omega), q1]
    · rw [cup_n (fun z => absurd z.1 (by decide)), cup_n (fun z => absurd z.1 (by decide)), cup_n (fun z => absurd z.1 (by decide)), cup_n (fun z => h z.2), cup_n (fun z => absurd z.1 (by decide))]; simp only [cto]; by_cases h5 : i < (S.2 0 1)
      · rw [if_pos h5, if_pos (by omega), q2 i h5]
      · rw [if_neg h5, if_neg (by omega)]
  | 8 => rw [cup_n (fun z => absurd z.1 (by decide)), cup_n (fun z => absurd z.1 (by decide)), cup_n (fun z => absurd z.1 (by decide)), cup_n (fun z => absurd z.1 (by decide)), cup_n (fun z => absurd z.1 (by decide))]; simp only [cto, n2, g3, r10, r11, r12]
  | 9 => rw [cup_n (fun z => absurd z.1 (by decide)), cup_n (fun z => absurd z.1 (by decide)), cup_n (fun z => absurd z.1 (by decide)), cup_n (fun z => absurd z.1 (by decide)), cup_n (fun z => absurd z.1 (by decide))]; simp only [cto, n3, g4, g5, r13, r14]
  | 10 => rw [cup_n (fun z => absurd z.1 (by decide)), cup_n (fun z => absurd z.1 (by decide)), cup_n (fun z => absurd z.1 (by decide)), cup_n (fun z => absurd z.1 (by decide)), cup_n (fun z => absurd z.1 (by decide))]; simp only [cto, n3]
  | 11 => rw [cup_n (fun z => absurd z.1 (by decide)), cup_n (fun z => absurd z.1 (by decide)), cup_n (fun z => absurd z.1 (by decide)), cup_n (fun z => absurd z.1 (by decide)), cup_n (fun z => absurd z.1 (by decide))]; simp only [cto, lab, n3, g4, g5, r13, r20]
  | 12 => rw [cup_n (fun z => absurd z.1 (by decide)), cup_n (fun z => absurd z.1 (by decide)), cup_n (fun z => absurd z.1 (by decide)), cup_n (fun z => absurd z.1 (by decide)), cup_n (fun z => absurd z.1 (by decide))]; simp only [cto, n4]
  | 13 => rw [cup_n (fun z => absurd z.1 (by decide)), cup_n (fun z => absurd z.1 (by decide)), cup_n (fun z => absurd z.1 (by decide)), cup_n (fun z => absurd z.1 (by decide)), cup_n (fun z => absurd z.1 (by decide))]; exact (ctE_13 (fun h => by match i, h with | 0, _ => exact r15 | 1, _ => exact r16 | 2, _ => exact r17)).symm
  | 14 => rw [cup_n (fun z => absurd z.1 (by decide)), cup_n (fun z => absurd z.1 (by decide)), cup_n (fun z => absurd z.1 (by decide)), cup_n (fun z => absurd z.1 (by decide)), cup_n (fun z => absurd z.1 (by decide))]; simp only [cto]
  | 15 => rw [cup_n (fun z => absurd z.1 (by decide)), cup_n (fun z => absurd z.1 (by decide)), cup_n (fun z => absurd z.1 (by decide)), cup_n (fun z => absurd z.1 (by decide)), cup_n (fun z => absurd z.1 (by decide))]; simp only [cto, r18]
  | 16 => rw [cup_n (fun z => absurd z.1 (by decide)), cup_n (fun z => absurd z.1 (by decide)), cup_n (fun z => absurd z.1 (by decide)), cup_n (fun z => absurd z.1 (by decide)), cup_n (fun z => absurd z.1 (by decide))]; simp only [cto]
  | 17 => rw [cup_n (fun z => absurd z.1 (by decide)), cup_n (fun z => absurd z.1 (by decide)), cup_n (fun z => absurd z.1 (by decide)), cup_n (fun z => absurd z.1 (by decide)), cup_n (fun z => absurd z.1 (by decide))]; simp only [cto]
  | 18 => rw [cup_n (fun z => absurd z.1 (by decide)), cup_n (fun z => absurd z.1 (by decide)), cup_n (fun z => absurd z.1 (by decide)), cup_n (fun z => absurd z.1 (by decide)), cup_n (fun z => absurd z.1 (by decide))]; simp only [cto]
  | k + 19 => rw [cup_n (fun z => by have := z.1; omega), cup_n (fun z => by have := z.1; omega), cup_n (fun z => by have := z.1; omega), cup_n (fun z => by have := z.1; omega), cup_n (fun z => by have := z.1; omega)]; simp only [cto]
set_option maxHeartbeats 1000000 in
theorem grow_spend (a : Nat) (v x : Int32) (r0 : S'.1 0 = S.1 0) (r1 : S'.1 1 = S.1 1) (r2 : S'.1 2 = S.1 2) (r3 : S'.1 3 = S.1 3) (r4 : S'.1 4 = S.1 4) (r5 : S'.1 5 = S.1 5) (r6 : S'.1 6 = S.1 6) (r7 : S'.1 7 = S.1 7) (r8 : S'.1 8 = S.1 8) (r13 : S'.1 13 = S.1 13) (r14 : S'.1 14 = S.1 14) (r15 : S'.1 15 = S.1 15) (r16 : S'.1 16 = S.1 16) (r17 : S'.1 17 = S.1 17) (r18 : S'.1 18 = S.1 18) (r20 : S'.1 20 = S.1 20) (v10 : S'.1 10 (S.2 0 2) = v) (w10 : ∀ i, i < (S.2 0 2) → S'.1 10 i = S.1 10 i) (v11 : S'.1 11 (S.2 0 2) = x) (w11 : ∀ i, i < (S.2 0 2) → S'.1 11 i = S.1 11 i) (v12 : S'.1 12 (S.2 0 2) = 0) (w12 : ∀ i, i < (S.2 0 2) → S'.1 12 i = S.1 12 i) (g1 : S'.2 1 = S.2 1) (g2 : S'.2 2 = S.2 2) (g4 : S'.2 4 = S.2 4) (g5 : S'.2 5 = S.2 5) (gv3 : S'.2 3 (S.2 0 2) = a) (gw3 : ∀ i, i < (S.2 0 2) → S'.2 3 i = S.2 3 i) (n0 : S'.2 0 0 = S.2 0 0) (n1 : S'.2 0 1 = S.2 0 1) (n2 : S'.2 0 2 = S.2 0 2 + 1) (n3 : S'.2 0 3 = S.2 0 3) (n4 : S'.2 0 4 = S.2 0 4) (c1 : S'.2 6 3 = cap) (c2 : ∀ i, i ≠ 3 → S'.2 6 i = S.2 6 i) (c0 : cap ≠ 0) (m1 : S'.1 19 3 = mo) (m2 : ∀ i, i ≠ 3 → S'.1 19 i = S.1 19 i) (q2 : ∀ i, S'.1 (100 + i) = S.1 (100 + i)) : cup (cup (cup (cto G S T o ad) 8 (S.2 0 2) (.inr (7, [.int (nI (S.2 0 2)), .ref (ad 5 a), .int v, .int x, .int 0]))) 2 3 (kOa G cap (kUp (fun j => if j < (S.2 0 2) then some (ad 8 j) else none) (S.2 0 2) (ad 8 (S.2 0 2))))) 1 3 (.inr (2, [.int mo, .ref (ad 2 3), .int (nI ((S.2 0 2) + 1))])) = cto G S' T o ad := by
  have hl : ∀ i, i ≠ 3 → i < 5 → lcnt S' i = lcnt S i := by
    intro i hi h5
    match i, h5 with
    | 0, _ => rfl
    | 1, _ => exact n0
    | 2, _ => exact n1
    | 3, _ => exact absurd rfl hi
    | 4, _ => exact n3
  have hl1 : lcnt S' 3 = (S.2 0 2) + 1 := n2
  funext k i
  match k with
  | 0 => rw [cup_n (fun z => absurd z.1 (by decide)), cup_n (fun z => absurd z.1 (by decide)), cup_n (fun z => absurd z.1 (by decide))]; simp only [cto, r0]
  | 1 =>
    by_cases h : i = 3
    · subst h; rw [cup_s]; simp only [cto]; rw [if_pos (by decide), hl1, m1, c1, if_neg c0]
    · rw [cup_n (fun z => h z.2), cup_n (fun z => absurd z.1 (by decide)), cup_n (fun z => absurd z.1 (by decide))]; simp only [cto]; by_cases h5 : i < 5
      · rw [if_pos h5, if_pos h5, hl i h h5, m2 i h, c2 i h]
      · rw [if_neg h5, if_neg h5]
  | 2 =>
    by_cases h : i = 3
    · subst h; rw [cup_n (fun z => absurd z.1 (by decide)), cup_s]; simp only [cto]; rw [if_pos ⟨by decide, by rw [c1]; exact c0⟩, hl1, c1]
      congr 7
      funext j
      simp only [kUp, lknd]
      by_cases hj : j < (S.2 0 2)
      · rw [if_pos hj, if_pos hj, if_pos (by omega)]
      · by_cases hj2 : j = (S.2 0 2)
        · subst hj2; rw [if_neg hj, if_pos rfl, if_pos (by omega)]
        · rw [if_neg hj, if_neg hj2, if_neg (by omega)]
    · rw [cup_n (fun z => absurd z.1 (by decide)), cup_n (fun z => h z.2), cup_n (fun z => absurd z.1 (by decide))]; simp only [cto]; by_cases h5 : i < 5
      · rw [hl i h h5, c2 i h]
      · rw [if_neg (fun z => h5 z.1), if_neg (fun z => h5 z.1)]
  | 3 => rw [cup_n (fun z => absurd z.1 (by decide)), cup_n (fun z => absurd z.1 (by decide)), cup_n (fun z => absurd z.1 (by decide))]; simp only [cto, r3, r4]
  | 4 => rw [cup_n (fun z => absurd z.1 (by decide)), cup_n (fun z => absurd z.1 (by decide)), cup_n (fun z => absurd z.1 (by decide))]; simp only [cto, n0, r1, r2]
  | 5 => rw [cup_n (fun z => absurd z.1 (by decide)), cup_n (fun z => absurd z.1 (by decide)), cup_n (fun z => absurd z.1 (by decide))]; simp only [cto, n1, g1, g2, r5, r6, r7, r8]
  | 6 => rw [cup_n (fun z => absurd z.1 (by decide)), cup_n (fun z => absurd z.1 (by decide)), cup_n (fun z => absurd z.1 (by decide))]; simp only [cto, n1]
  | 7 => rw [cup_n (fun z => absurd z.1 (by decide)), cup_n (fun z => absurd z.1 (by decide)), cup_n (fun z => absurd z.1 (by decide))]; simp only [cto, n1]; rw [q2 i]
  | 8 =>
    by_cases h : i = (S.2 0 2)
    · subst h; rw [cup_n (fun z => absurd z.1 (by decide)), cup_n (fun z => absurd z.1 (by decide)), cup_s]; simp only [cto]; rw [if_pos (by omega), gv3, v10, v11, v12]
    · rw [cup_n (fun z => absurd z.1 (by decide)), cup_n (fun z => absurd z.1 (by decide)), cup_n (fun z => h z.2)]; simp only [cto]; by_cases h5 : i < (S.2 0 2)
      · rw [if_pos h5, if_pos (by omega), gw3 i h5, w10 i h5, w11 i h5, w12 i h5]
      · rw [if_neg h5, if_neg (by omega)]
  | 9 => rw [cup_n (fun z => absurd z.1 (by decide)), cup_n (fun z => absurd z.1 (by decide)), cup_n (fun z => absurd z.1 (by decide))]; simp only [cto, n3, g4, g5, r13, r14]
  | 10 => rw [cup_n (fun z => absurd z.1 (by decide)), cup_n (fun z => absurd z.1 (by decide)), cup_n (fun z => absurd z.1 (by decide))]; simp only [cto, n3]
  | 11 => rw [cup_n (fun z => absurd z.1 (by decide)), cup_n (fun z => absurd z.1 (by decide)), cup_n (fun z => absurd z.1 (by decide))]; simp only [cto, lab, n3, g4, g5, r13, r20]
  | 12 => rw [cup_n (fun z => absurd z.1 (by decide)), cup_n (fun z => absurd z.1 (by decide)), cup_n (fun z => absurd z.1 (by decide))]; simp only [cto, n4]
  | 13 => rw [cup_n (fun z => absurd z.1 (by decide)), cup_n (fun z => absurd z.1 (by decide)), cup_n (fun z => absurd z.1 (by decide))]; exact (ctE_13 (fun h => by match i, h with | 0, _ => exact r15 | 1, _ => exact r16 | 2, _ => exact r17)).symm
  | 14 => rw [cup_n (fun z => absurd z.1 (by decide)), cup_n (fun z => absurd z.1 (by decide)), cup_n (fun z => absurd z.1 (by decide))]; simp only [cto]
  | 15 => rw [cup_n (fun z => absurd z.1 (by decide)), cup_n (fun z => absurd z.1 (by decide)), cup_n (fun z => absurd z.1 (by decide))]; simp only [cto, r18]
  | 16 => rw [cup_n (fun z => absurd z.1 (by decide)), cup_n (fun z => absurd z.1 (by decide)), cup_n (fun z => absurd z.1 (by decide))]; simp only [cto]
  | 17 => rw [cup_n (fun z => absurd z.1 (by decide)), cup_n (fun z => absurd z.1 (by decide)), cup_n (fun z => absurd z.1 (by decide))]; simp only [cto]
  | 18 => rw [cup_n (fun z => absurd z.1 (by decide)), cup_n (fun z => absurd z.1 (by decide)), cup_n (fun z => absurd z.1 (by decide))]; simp only [cto]
  | k + 19 => rw [cup_n (fun z => by have := z.1; omega), cup_n (fun z => by have := z.1; omega), cup_n (fun z => by have := z.1; omega)]; simp only [cto]
set_option maxHeartbeats 1000000 in
theorem grow_task (a w : Nat) (v y : Int32) (r0 : S'.1 0 = S.1 0) (r1 : S'.1 1 = S.1 1) (r2 : S'.1 2 = S.1 2) (r3 : S'.1 3 = S.1 3) (r4 : S'.1 4 = S.1 4) (r5 : S'.1 5 = S.1 5) (r6 : S'.1 6 = S.1 6) (r7 : S'.1 7 = S.1 7) (r8 : S'.1 8 = S.1 8) (r10 : S'.1 10 = S.1 10) (r11 : S'.1 11 = S.1 11) (r12 : S'.1 12 = S.1 12) (r15 : S'.1 15 = S.1 15) (r16 : S'.1 16 = S.1 16) (r17 : S'.1 17 = S.1 17) (r18 : S'.1 18 = S.1 18) (v13 : S'.1 13 (S.2 0 3) = y) (w13 : ∀ i, i < (S.2 0 3) → S'.1 13 i = S.1 13 i) (v14 : S'.1 14 (S.2 0 3) = 0) (w14 : ∀ i, i < (S.2 0 3) → S'.1 14 i = S.1 14 i) (v20 : S'.1 20 (S.2 0 3) = v) (w20 : ∀ i, i < (S.2 0 3) → S'.1 20 i = S.1 20 i) (g1 : S'.2 1 = S.2 1) (g2 : S'.2 2 = S.2 2) (g3 : S'.2 3 = S.2 3) (gv4 : S'.2 4 (S.2 0 3) = a) (gw4 : ∀ i, i < (S.2 0 3) → S'.2 4 i = S.2 4 i) (gv5 : S'.2 5 (S.2 0 3) = w) (gw5 : ∀ i, i < (S.2 0 3) → S'.2 5 i = S.2 5 i) (n0 : S'.2 0 0 = S.2 0 0) (n1 : S'.2 0 1 = S.2 0 1) (n2 : S'.2 0 2 = S.2 0 2) (n3 : S'.2 0 3 = S.2 0 3 + 1) (n4 : S'.2 0 4 = S.2 0 4) (c1 : S'.2 6 4 = cap) (c2 : ∀ i, i ≠ 4 → S'.2 6 i = S.2 6 i) (c0 : cap ≠ 0) (m1 : S'.1 19 4 = mo) (m2 : ∀ i, i ≠ 4 → S'.1 19 i = S.1 19 i) (q2 : ∀ i, S'.1 (100 + i) = S.1 (100 + i)) : cup (cup (cup (cup (cup (cto G S T o ad) 11 (S.2 0 3) ((.inl (G.2.1, (lab S' (S.2 0 3)).length, .inl (fun j => nI ((lab S' (S.2 0 3)).getD j 0)))))) 10 (S.2 0 3) (.inr (0, [.ref (ad 11 (S.2 0 3)), .int 0, .int 0, .int 0]))) 9 (S.2 0 3) (.inr (8, [.int (nI (S.2 0 3)), .int (nI a), .ref (ad 4 w), .int y, .ref (ad 10 (S.2 0 3)), .int 0]))) 2 4 (kOa G cap (kUp (fun j => if j < (S.2 0 3) then some (ad 9 j) else none) (S.2 0 3) (ad 9 (S.2 0 3))))) 1 4 (.inr (2, [.int mo, .ref (ad 2 4), .int (nI ((S.2 0 3) + 1))])) = cto G S' T o ad := by
  have hl : ∀ i, i ≠ 4 → i < 5 → lcnt S' i = lcnt S i := by
    intro i hi h5
    match i, h5 with
    | 0, _ => rfl
    | 1, _ => exact n0
    | 2, _ => exact n1
    | 3, _ => exact n2
    | 4, _ => exact absurd rfl hi
  have hl1 : lcnt S' 4 = (S.2 0 3) + 1 := n3
  funext k i
  match k with
  | 0 => rw [cup_n (fun z => absurd z.1 (by decide)), cup_n (fun z => absurd z.1 (by decide)), cup_n (fun z => absurd z.1 (by decide)), cup_n (fun z => absurd z.1 (by decide)), cup_n (fun z => absurd z.1 (by decide))]; simp only [cto, r0]
  | 1 =>
    by_cases h : i = 4
    · subst h; rw [cup_s]; simp only [cto]; rw [if_pos (by decide), hl1, m1, c1, if_neg c0]
    · rw [cup_n (fun z => h z.2), cup_n (fun z => absurd z.1 (by decide)), cup_n (fun z => absurd z.1 (by decide)), cup_n (fun z => absurd z.1 (by decide)), cup_n (fun z => absurd z.1 (by decide))]; simp only [cto]; by_cases h5 : i < 5
      · rw [if_pos h5, if_pos h5, hl i h h5, m2 i h, c2 i h]
      · rw [if_neg h5, if_neg h5]
  | 2 =>
    by_cases h : i = 4
    · subst h; rw [cup_n (fun z => absurd z.1 (by decide)), cup_s]; simp only [cto]; rw [if_pos ⟨by decide, by rw [c1]; exact c0⟩, hl1, c1]
      congr 7
      funext j
      simp only [kUp, lknd]
      by_cases hj : j < (S.2 0 3)
      · rw [if_pos hj, if_pos hj, if_pos (by omega)]
      · by_cases hj2 : j = (S.2 0 3)
        · subst hj2; rw [if_neg hj, if_pos rfl, if_pos (by omega)]
        · rw [if_neg hj, if_neg hj2, if_neg (by omega)]
    · rw [cup_n (fun z => absurd z.1 (by decide)), cup_n (fun z => h z.2), cup_n (fun z => absurd z.1 (by decide)), cup_n (fun z => absurd z.1 (by decide)), cup_n (fun z => absurd z.1 (by decide))]; simp only [cto]; by_cases h5 : i < 5
      · rw [hl i h h5, c2 i h]
      · rw [if_neg (fun z => h5 z.1), if_neg (fun z => h5 z.1)]
  | 3 => rw [cup_n (fun z => absurd z.1 (by decide)), cup_n (fun z => absurd z.1 (by decide)), cup_n (fun z => absurd z.1 (by decide)), cup_n (fun z => absurd z.1 (by decide)), cup_n (fun z => absurd z.1 (by decide))]; simp only [cto, r3, r4]
  | 4 => rw [cup_n (fun z => absurd z.1 (by decide)), cup_n (fun z => absurd z.1 (by decide)), cup_n (fun z => absurd z.1 (by decide)), cup_n (fun z => absurd z.1 (by decide)), cup_n (fun z => absurd z.1 (by decide))]; simp only [cto, n0, r1, r2]
  | 5 => rw [cup_n (fun z => absurd z.1 (by decide)), cup_n (fun z => absurd z.1 (by decide)), cup_n (fun z => absurd z.1 (by decide)), cup_n (fun z => absurd z.1 (by decide)), cup_n (fun z => absurd z.1 (by decide))]; simp only [cto, n1, g1, g2, r5, r6, r7, r8]
  | 6 => rw [cup_n (fun z => absurd z.1 (by decide)), cup_n (fun z => absurd z.1 (by decide)), cup_n (fun z => absurd z.1 (by decide)), cup_n (fun z => absurd z.1 (by decide)), cup_n (fun z => absurd z.1 (by decide))]; simp only [cto, n1]
  | 7 => rw [cup_n (fun z => absurd z.1 (by decide)), cup_n (fun z => absurd z.1 (by decide)), cup_n (fun z => absurd z.1 (by decide)), cup_n (fun z => absurd z.1 (by decide)), cup_n (fun z => absurd z.1 (by decide))]; simp only [cto, n1]; rw [q2 i]
  | 8 => rw [cup_n (fun z => absurd z.1 (by decide)), cup_n (fun z => absurd z.1 (by decide)), cup_n (fun z => absurd z.1 (by decide)), cup_n (fun z => absurd z.1 (by decide)), cup_n (fun z => absurd z.1 (by decide))]; simp only [cto, n2, g3, r10, r11, r12]
  | 9 =>
    by_cases h : i = (S.2 0 3)
    · subst h; rw [cup_n (fun z => absurd z.1 (by decide)), cup_n (fun z => absurd z.1 (by decide)), cup_s]; simp only [cto]; rw [if_pos (by omega), gv4, gv5, v13, v14]
    · rw [cup_n (fun z => absurd z.1 (by decide)), cup_n (fun z => absurd z.1 (by decide)), cup_n (fun z => h z.2), cup_n (fun z => absurd z.1 (by decide)), cup_n (fun z => absurd z.1 (by decide))]; simp only [cto]; by_cases h5 : i < (S.2 0 3)
      · rw [if_pos h5, if_pos (by omega), gw4 i h5, gw5 i h5, w13 i h5, w14 i h5]
      · rw [if_neg h5, if_neg (by omega)]
  | 10 =>
    by_cases h : i = (S.2 0 3)
    · subst h; rw [cup_n (fun z => absurd z.1 (by decide)), cup_n (fun z => absurd z.1 (by decide)), cup_n (fun z => absurd z.1 (by decide)), cup_s]; simp only [cto]; rw [if_pos (by omega)]
    · rw [cup_n (fun z => absurd z.1 (by decide)), cup_n (fun z => absurd z.1 (by decide)), cup_n (fun z => absurd z.1 (by decide)), cup_n (fun z => h z.2), cup_n (fun z => absurd z.1 (by decide))]; simp only [cto]; by_cases h5 : i < (S.2 0 3)
      · rw [if_pos h5, if_pos (by omega)]
      · rw [if_neg h5, if_neg (by omega)]
  | 11 =>
    by_cases h : i = (S.2 0 3)
    · subst h; rw [cup_n (fun z => absurd z.1 (by decide)), cup_n (fun z => absurd z.1 (by decide)), cup_n (fun z => absurd z.1 (by decide)), cup_n (fun z => absurd z.1 (by decide)), cup_s]; simp only [cto]; rw [if_pos (by omega)]
    · rw [cup_n (fun z => absurd z.1 (by decide)), cup_n (fun z => absurd z.1 (by decide)), cup_n (fun z => absurd z.1 (by decide)), cup_n (fun z => absurd z.1 (by decide)), cup_n (fun z => h z.2)]; simp only [cto]; by_cases h5 : i < (S.2 0 3)
      · rw [if_pos h5, if_pos (by omega), show lab S' i = lab S i from by simp only [lab]; rw [gw4 i h5, gw5 i h5, w13 i h5, w20 i h5]]
      · rw [if_neg h5, if_neg (by omega)]
  | 12 => rw [cup_n (fun z => absurd z.1 (by decide)), cup_n (fun z => absurd z.1 (by decide)), cup_n (fun z => absurd z.1 (by decide)), cup_n (fun z => absurd z.1 (by decide)), cup_n (fun z => absurd z.1 (by decide))]; simp only [cto, n4]
  | 13 => rw [cup_n (fun z => absurd z.1 (by decide)), cup_n (fun z => absurd z.1 (by decide)), cup_n (fun z => absurd z.1 (by decide)), cup_n (fun z => absurd z.1 (by decide)), cup_n (fun z => absurd z.1 (by decide))]; exact (ctE_13 (fun h => by match i, h with | 0, _ => exact r15 | 1, _ => exact r16 | 2, _ => exact r17)).symm
  | 14 => rw [cup_n (fun z => absurd z.1 (by decide)), cup_n (fun z => absurd z.1 (by decide)), cup_n (fun z => absurd z.1 (by decide)), cup_n (fun z => absurd z.1 (by decide)), cup_n (fun z => absurd z.1 (by decide))]; simp only [cto]
  | 15 => rw [cup_n (fun z => absurd z.1 (by decide)), cup_n (fun z => absurd z.1 (by decide)), cup_n (fun z => absurd z.1 (by decide)), cup_n (fun z => absurd z.1 (by decide)), cup_n (fun z => absurd z.1 (by decide))]; simp only [cto, r18]
  | 16 => rw [cup_n (fun z => absurd z.1 (by decide)), cup_n (fun z => absurd z.1 (by decide)), cup_n (fun z => absurd z.1 (by decide)), cup_n (fun z => absurd z.1 (by decide)), cup_n (fun z => absurd z.1 (by decide))]; simp only [cto]
  | 17 => rw [cup_n (fun z => absurd z.1 (by decide)), cup_n (fun z => absurd z.1 (by decide)), cup_n (fun z => absurd z.1 (by decide)), cup_n (fun z => absurd z.1 (by decide)), cup_n (fun z => absurd z.1 (by decide))]; simp only [cto]
  | 18 => rw [cup_n (fun z => absurd z.1 (by decide)), cup_n (fun z => absurd z.1 (by decide)), cup_n (fun z => absurd z.1 (by decide)), cup_n (fun z => absurd z.1 (by decide)), cup_n (fun z => absurd z.1 (by decide))]; simp only [cto]
  | k + 19 => rw [cup_n (fun z => by have := z.1; omega), cup_n (fun z => by have := z.1; omega), cup_n (fun z => by have := z.1; omega), cup_n (fun z => by have := z.1; omega), cup_n (fun z => by have := z.1; omega)]; simp only [cto]
end GROW
