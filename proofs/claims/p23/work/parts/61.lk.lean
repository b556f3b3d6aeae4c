/-! EDITS AND MARKS in digits; sums and bounds; what is settled; between a call and the settling -/
/-- the digits behind the law's loop over the first i users -/
def dold (d : Nat → Nat) (i : Nat) : Nat → Nat := fun w => if w < i then old4 (d w) else d w
theorem dold_0 {d : Nat → Nat} : dold d 0 = d := by
  funext w
  exact if_neg (Nat.not_lt_zero w)
theorem dold_at {d : Nat → Nat} {i : Nat} : dold d i i = d i := if_neg (Nat.lt_irrefl i)
theorem dold_s {d : Nat → Nat} {i : Nat} : dset (dold d i) i (old4 (d i)) = dold d (i + 1) := by
  funext w
  unfold dset dold
  by_cases h : w = i
  · rw [if_pos h, if_pos (by omega), h]
  · rw [if_neg h]
    by_cases h2 : w < i
    · rw [if_pos h2, if_pos (by omega)]
    · rw [if_neg h2, if_neg (by omega)]
theorem dold_n {d : Nat → Nat} {i : Nat} (h : d i % 4 = 0) : dold d i = dold d (i + 1) := by
  rw [← dold_s, show old4 (d i) = d i from if_pos h]
  have e : d i = dold d i i := dold_at.symm
  rw [e]
  exact k8_same.symm
theorem d8.old {d : Nat → Nat} (h : d8 d) (i : Nat) : d8 (dold d i) := by
  intro w hw
  unfold dold
  split
  · exact old4_lt (h w hw)
  · exact h w hw
theorem sI_sI {S : kSt} {f i : Nat} {v w : Int32} : sI (sI S f i v) f i w = sI S f i w := by
  refine Prod.ext ?_ rfl
  funext g j
  simp only [sI]
  by_cases h : g = f ∧ j = i
  · rw [if_pos h, if_pos h]
  · rw [if_neg h, if_neg h, if_neg h]
theorem sI_same {S : kSt} {f i : Nat} {v : Int32} (h : S.1 f i = v) : sI S f i v = S := by rw [← h]; exact sI_id _ _ _
section LTE
variable {S A M : kSt} {n : Nat}
theorem LT.ed1 (h : LT S A) {a : Nat} (ha : a < S.2 0 1) {d : Nat → Nat} (hd : d8 d) (hdd : ∀ u, u < 8 → (kdS S a u = -1 ↔ d u ≠ 1 ∧ d u ≠ 2)) (hk : ∀ u, S.2 0 0 ≤ u → u < 12 → kdS S a u = -1) : LT (oEd1 S (nI a)) (sI (sI A 3 a (S.1 7 a + 1)) 5 a (nI (k8 (dold d (S.2 0 0))))) := by
  have hc := h.c
  have ca : cl (nI a) = a := nI_clamp (by omega)
  have e : oEd1 S (nI a) = sR (sI S 7 a (S.1 7 a + 1)) (100 + a) 0 12 (-1) := by unfold oEd1; rw [ca]
  rw [e]
  refine h.msg rfl (sR_fn (by omega)) (fun m hm => ?_) (fun f h1 h2 => (sR_fn (by omega)).trans (sI_fn h2)) ha ?_
  · show (sR (sI S 7 a (S.1 7 a + 1)) (100 + a) 0 12 (-1)).1 (100 + m) = S.1 (100 + m)
    rw [sR_fn (by omega), sI_fn (by omega)]
  · refine ⟨_, hd.old _, rfl, fun u hu => Or.inr (Or.inr ⟨?_, ?_⟩)⟩
    · show (if 100 + a = 100 + a ∧ (0 ≤ u ∧ u < 0 + 12) then (-1 : Int32) else _) = -1
      rw [if_pos ⟨rfl, by omega, by omega⟩]
    · unfold dold
      by_cases h2 : u < S.2 0 0
      · rw [if_pos h2]; exact old4_12 (hd u hu)
      · rw [if_neg h2]; exact (hdd u hu).mp (hk u (by omega) (by omega))
theorem LT.mrk (h : LT S A) {a u kk : Nat} {dg : Nat → Nat} (ha : a < S.2 0 1) (hu : u < 8) (hkk : kk < 3) (hd : d8 dg) (hdd : ∀ w, w < 8 → (dg w = 1 ↔ kdS S a w = 0) ∧ (dg w = 2 ↔ kdS S a w = 1) ∧ (kdS S a w = -1 ↔ dg w ≠ 1 ∧ dg w ≠ 2)) (h01 : ∀ w, w < 8 → kdS S a w = -1 ∨ kdS S a w = 0 ∨ kdS S a w = 1) : LT (oMkC S (nI u) (nI a) (nI kk - 1)) (sI A 5 a (nI (k8 (dset dg u kk)))) := by
  have hc := h.c
  have ca : cl (nI a) = a := nI_clamp (by omega)
  have cu : cl (nI u) = u := nI_clamp (by omega)
  have e : oMkC S (nI u) (nI a) (nI kk - 1) = lgE (sI S (100 + a) u (nI kk - 1)) (nI a) (nI u) (nI kk - 1) := by unfold oMkC; rw [ca, cu]
  rw [e]
  refine LT.lg ?_ _ _ _
  have hA : sI A 3 a (S.1 7 a) = A := sI_same (h.v ha)
  rw [← hA]
  refine h.msg rfl ?_ (fun m hm => ?_) (fun f h1 h2 => sI_fn (by omega)) ha ?_
  · rw [sI_fn (by omega), sI_same rfl]
  · exact sI_fn (by omega)
  · refine ⟨_, hd.set (by omega), rfl, fun w hw => ?_⟩
    show (dset dg u kk w = 1 ∧ (sI S (100 + a) u (nI kk - 1)).1 (100 + a) w = 0) ∨ (dset dg u kk w = 2 ∧ (sI S (100 + a) u (nI kk - 1)).1 (100 + a) w = 1) ∨ ((sI S (100 + a) u (nI kk - 1)).1 (100 + a) w = -1 ∧ dset dg u kk w ≠ 1 ∧ dset dg u kk w ≠ 2)
    by_cases e : w = u
    · rw [e, sI_s, dset_s]
      match kk, hkk with
      | 0, _ => exact Or.inr (Or.inr ⟨by decide, by decide, by decide⟩)
      | 1, _ => exact Or.inl ⟨rfl, by decide⟩
      | 2, _ => exact Or.inr (Or.inl ⟨rfl, by decide⟩)
    · rw [sI_n e, dset_n e]
      obtain ⟨d1, d2, d3⟩ := hdd w hw
      rcases h01 w hw with z | z | z
      · exact Or.inr (Or.inr ⟨z, d3.mp z⟩)
      · exact Or.inl ⟨d1.mpr z, z⟩
      · exact Or.inr (Or.inl ⟨d2.mpr z, z⟩)
end LTE
/-! sums and bounds -/
def stN (S : kSt) : Nat → Nat
  | 0 => 0
  | k + 1 => stN S k + (if S.1 12 k = 0 then 1 else 0)
theorem stN_c {S S' : kSt} (h : S'.1 12 = S.1 12) : ∀ k, stN S' k = stN S k
  | 0 => rfl
  | k + 1 => by simp only [stN, stN_c h k, h]
def BB (n : Nat) (S : kSt) : Prop := (∀ k, k < S.2 0 2 → ∃ a, a ≤ 1000000 ∧ S.1 11 k = nI a) ∧ ∀ c, c < 6 → ∃ b, S.1 3 c = nI b ∧ b + 1000000 * stN S (S.2 0 2) ≤ 1000000 * n
theorem BB.c {n : Nat} {S S' : kSt} (h : BB n S) (n2 : S'.2 0 2 = S.2 0 2) (h3 : S'.1 3 = S.1 3) (h11 : S'.1 11 = S.1 11) (h12 : S'.1 12 = S.1 12) : BB n S' := by
  unfold BB
  rw [n2, h3, h11, stN_c h12]
  exact h
theorem BB.up {n k : Nat} {S : kSt} (h : BB n S) (hk : n ≤ k) : BB k S := ⟨h.1, fun c hc => by
  obtain ⟨b, h1, h2⟩ := h.2 c hc
  exact ⟨b, h1, by omega⟩⟩
theorem back_11 {S : kSt} {k c : Nat} {x : Int32} : (sI (sI S 12 k 1) 3 c x).1 11 = S.1 11 := fn2 (by decide)
theorem back_12n {S : kSt} {k c q : Nat} {x : Int32} (h : q ≠ k) : (sI (sI S 12 k 1) 3 c x).1 12 q = S.1 12 q := (sI_f (by decide)).trans (sI_n h)
theorem back_12s {S : kSt} {k c : Nat} {x : Int32} : (sI (sI S 12 k 1) 3 c x).1 12 k = 1 := (sI_f (by decide)).trans sI_s
theorem stN_back {S : kSt} {k c : Nat} {x : Int32} (h : S.1 12 k = 0) : ∀ m, stN (sI (sI S 12 k 1) 3 c x) m + (if k < m then 1 else 0) = stN S m
  | 0 => rfl
  | m + 1 => by
    have ih := stN_back (c := c) (x := x) h m
    simp only [stN]
    by_cases e : m = k
    · rw [e] at ih ⊢
      rw [back_12s, h]
      rw [if_neg (Nat.lt_irrefl k)] at ih
      simp
      omega
    · rw [back_12n e]
      by_cases h2 : k < m
      · rw [if_pos h2] at ih; rw [if_pos (show k < m + 1 by omega)]; omega
      · rw [if_neg h2] at ih; rw [if_neg (show ¬ k < m + 1 by omega)]; omega
theorem spS_back {S : kSt} {k c : Nat} {x : Int32} (h : S.1 12 k = 0) : ∀ m, spS (sI (sI S 12 k 1) 3 c x) m + (if k < m then S.1 11 k else 0) = spS S m
  | 0 => by simp [spS]
  | m + 1 => by
    have ih := spS_back (c := c) (x := x) h m
    simp only [spS]
    rw [back_11]
    by_cases e : m = k
    · rw [e] at ih ⊢
      rw [back_12s, h]
      rw [if_neg (Nat.lt_irrefl k)] at ih
      rw [if_neg (by decide), if_pos rfl, if_pos (Nat.lt_succ_self k), ih]
    · rw [back_12n e]
      by_cases h2 : k < m
      · rw [if_pos h2] at ih; rw [if_pos (show k < m + 1 by omega), ← ih]; ac_rfl
      · rw [if_neg h2, Int32.add_zero] at ih; rw [if_neg (show ¬ k < m + 1 by omega), Int32.add_zero, ih]
theorem chS_back {S : kSt} {k c : Nat} {x : Int32} : ∀ m, chS (sI (sI S 12 k 1) 3 c (S.1 3 c + x)) m = chS S m + (if c < m then x else 0)
  | 0 => by simp [chS]
  | m + 1 => by
    have ih := chS_back (S := S) (k := k) (c := c) (x := x) m
    simp only [chS]
    rw [ih]
    by_cases e : m = c
    · rw [e, sI_s, if_neg (Nat.lt_irrefl c), if_pos (Nat.lt_succ_self c), Int32.add_zero]; ac_rfl
    · rw [sI_n e, sI_f (by decide)]
      by_cases h2 : c < m
      · rw [if_pos h2, if_pos (show c < m + 1 by omega)]; ac_rfl
      · rw [if_neg h2, if_neg (show ¬ c < m + 1 by omega), Int32.add_zero, Int32.add_zero]
theorem tot_back {S : kSt} {k c : Nat} (hk : k < S.2 0 2) (hc : c < 6) (h : S.1 12 k = 0) : tot (sI (sI S 12 k 1) 3 c (S.1 3 c + S.1 11 k)) = tot S := by
  have e1 := spS_back (c := c) (x := S.1 3 c + S.1 11 k) h (S.2 0 2)
  have e2 := chS_back (S := S) (k := k) (c := c) (x := S.1 11 k) 6
  rw [if_pos hk] at e1
  rw [if_pos hc] at e2
  unfold tot totC
  show spS (sI (sI S 12 k 1) 3 c (S.1 3 c + S.1 11 k)) (S.2 0 2) + chS (sI (sI S 12 k 1) 3 c (S.1 3 c + S.1 11 k)) 6 = _
  rw [e2, ← e1]
  ac_rfl
theorem BB.back {n : Nat} {S : kSt} (hB : BB n S) {k c : Nat} (hk : k < S.2 0 2) (hc : c < 6) (h : S.1 12 k = 0) : BB n (sI (sI S 12 k 1) 3 c (S.1 3 c + S.1 11 k)) := by
  have e := stN_back (c := c) (x := S.1 3 c + S.1 11 k) h (S.2 0 2)
  rw [if_pos hk] at e
  obtain ⟨a, a1, a2⟩ := hB.1 k hk
  refine ⟨fun q hq => by rw [back_11]; exact hB.1 q hq, fun d hd => ?_⟩
  obtain ⟨b, b1, b2⟩ := hB.2 d hd
  show ∃ b, _ ∧ b + 1000000 * stN (sI (sI S 12 k 1) 3 c (S.1 3 c + S.1 11 k)) (S.2 0 2) ≤ 1000000 * n
  by_cases h2 : d = c
  · rw [h2] at b1 ⊢
    rw [sI_s]
    refine ⟨b + a, by rw [b1, a2]; exact nI_add b a, ?_⟩
    omega
  · rw [sI_n h2, sI_f (by decide)]
    exact ⟨b, b1, by omega⟩
theorem stl_keep {n : Nat} {S : kSt} (hN : okN S) (hB : BB n S) (kd : Nat → Nat → Int32) : ∀ k, k ≤ S.2 0 2 → tot (stl S kd k) = tot S ∧ BB n (stl S kd k)
  | 0, _ => ⟨rfl, hB⟩
  | k + 1, hk => by
    obtain ⟨h1, h2⟩ := stl_keep hN hB kd k (by omega)
    have e2 := (stl_r S kd k).1
    show tot (stl1 (stl S kd k) kd k) = tot S ∧ BB n (stl1 (stl S kd k) kd k)
    generalize stl S kd k = Z at h1 h2 e2 ⊢
    have hZ : okN Z := okN_c e2 hN
    have hkz : k < Z.2 0 2 := by rw [e2]; omega
    unfold stl1
    split
    · rename_i hc
      have hch := (hZ.2.2.2.2.1 _ (hZ.2.2.2.2.2.1 k hkz)).2
      exact ⟨(tot_back hkz hch hc.1).trans h1, h2.back hkz hch hc.1⟩
    · exact ⟨h1, h2⟩
theorem stl_id {S : kSt} (h : Sett S) : ∀ k, k ≤ S.2 0 2 → stl S (kdS S) k = S
  | 0, _ => rfl
  | k + 1, hk => by
    show stl1 (stl S (kdS S) k) (kdS S) k = S
    rw [stl_id h k (by omega)]
    by_cases h0 : S.1 12 k = 0
    · have hd := h k (by omega) h0
      simp only [due, Bool.and_eq_true, decide_eq_true_eq] at hd
      exact stl1_no (Or.inr hd)
    · exact stl1_no (Or.inl h0)
/-- between a call and the settling: M is what the law's arrays say -/
def Mid (n : Nat) (S A : kSt) : Prop := (∃ T, Tie n S T) ∧ ∃ M, LT M A ∧ A.1 11 5 = tot M ∧ BB n M ∧ S = stl M (kdS M) (M.2 0 2)
def Iv (n : Nat) (S A : kSt) : Prop := Inv n S A ∧ BB n S
theorem Iv.mid {n k : Nat} {S A : kSt} (h : Iv n S A) (hk : n ≤ k) : Mid k S A := by
  obtain ⟨⟨⟨T, h1⟩, h2, h3⟩, h4⟩ := h
  exact ⟨⟨T, h1.up hk⟩, S, h2, h3, h4.up hk, (stl_id h1.2 _ (Nat.le_refl _)).symm⟩
/-- a state that is settled and told to the law as it stands -/
theorem Mid.set {n : Nat} {S A T : kSt} (h1 : Tie n S T) (h2 : LT S A) (h3 : A.1 11 5 = tot S) (h4 : BB n S) : Mid n S A := ⟨⟨T, h1⟩, S, h2, h3, h4, (stl_id h1.2 _ (Nat.le_refl _)).symm⟩
theorem Mid.of {n : Nat} {S M A T : kSt} (h1 : Tie n S T) (h2 : LT M A) (h3 : A.1 11 5 = tot M) (h4 : BB n M) (h5 : S = stl M (kdS M) (M.2 0 2)) : Mid n S A := ⟨⟨T, h1⟩, M, h2, h3, h4, h5⟩
theorem Mid.okM {S M : kSt} {n : Nat} {T : kSt} (h1 : Tie n S T) (h5 : S = stl M (kdS M) (M.2 0 2)) : okN M := by
  have e : S.2 = M.2 := by rw [h5]; exact (stl_r M (kdS M) _).1
  exact okN_c e.symm h1.1.2.2.1
