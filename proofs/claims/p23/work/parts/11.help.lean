/-! HELPERS on states of numbers -/
theorem inB_rng {u : Int32} {n : Nat} (hn : n ≤ 100000) : (decide (0 ≤ u) && decide (u ≤ nI n - 1)) = inB u n := by
  have h1 : (nI n - 1).toInt = (n : Int) - 1 := by
    have := pk_sub_toInt (a := n) (b := 1) (by omega) (by decide)
    exact this
  simp only [inB]
  have e1 : (0 ≤ u) = (0 ≤ u.toInt) := propext (Int32.le_iff_toInt_le)
  have e2 : (u ≤ nI n - 1) = (u.toInt < n) := by
    apply propext
    rw [Int32.le_iff_toInt_le, h1]
    omega
  simp only [e1, e2]
theorem stl_r (S : kSt) (kd : Nat → Nat → Int32) : ∀ n, (stl S kd n).2 = S.2 ∧ (∀ f j, f ≠ 12 → f ≠ 3 → (stl S kd n).1 f j = S.1 f j) ∧ ∀ j, n ≤ j → (stl S kd n).1 12 j = S.1 12 j
  | 0 => ⟨rfl, fun _ _ _ _ => rfl, fun _ _ => rfl⟩
  | n + 1 => by
    obtain ⟨h1, h2, h3⟩ := stl_r S kd n
    refine ⟨?_, fun f j ha hb => ?_, fun j hj => ?_⟩
    · simp only [stl, stl1]
      split
      · exact h1
      · exact h1
    · simp only [stl, stl1]
      split
      · simp [sI, ha, hb, h2 f j ha hb]
      · exact h2 f j ha hb
    · simp only [stl, stl1]
      split
      · have : j ≠ n := by omega
        simp [sI, this, h3 j (by omega)]
      · exact h3 j (by omega)
theorem gone_c {S S' : kSt} (h0 : S'.1 0 0 = S.1 0 0) (h2 : ∀ j, S'.1 2 j = S.1 2 j) (u : Nat) : gone S' u = gone S u := by simp only [gone, h0, h2]
theorem cnts_c {S S' : kSt} (h0 : S'.1 0 0 = S.1 0 0) (h1 : ∀ j, S'.1 1 j = S.1 1 j) (h2 : ∀ j, S'.1 2 j = S.1 2 j) {kd kd' : Nat → Int32} {u : Nat} (hk : kd' u = kd u) : cnts S' kd' u = cnts S kd u := by simp only [cnts, gone_c h0 h2, h1, hk]
theorem bar_c {S S' : kSt} (h0 : S'.1 0 0 = S.1 0 0) (h1 : ∀ j, S'.1 1 j = S.1 1 j) (h2 : ∀ j, S'.1 2 j = S.1 2 j) {kd kd' : Nat → Int32} : ∀ {n : Nat}, (∀ u, u < n → kd' u = kd u) → bar S' kd' n = bar S kd n
  | 0, _ => rfl
  | n + 1, hk => by
    have ih := bar_c h0 h1 h2 (n := n) (fun u hu => hk u (Nat.lt_succ_of_lt hu))
    simp only [bar, ih, cnts_c h0 h1 h2 (hk n (by omega)), hk n (by omega)]
theorem isY_c {S S' : kSt} (h0 : S'.1 0 0 = S.1 0 0) (h1 : ∀ j, S'.1 1 j = S.1 1 j) (h2 : ∀ j, S'.1 2 j = S.1 2 j) {kd kd' : Nat → Int32} {u a : Nat} (hk : kd' u = kd u) : isY S' kd' a u = isY S kd a u := by simp only [isY, cnts_c h0 h1 h2 hk, h1, hk]
theorem yesN_c {S S' : kSt} (h0 : S'.1 0 0 = S.1 0 0) (h1 : ∀ j, S'.1 1 j = S.1 1 j) (h2 : ∀ j, S'.1 2 j = S.1 2 j) {kd kd' : Nat → Int32} {a : Nat} : ∀ {n : Nat}, (∀ u, u < n → kd' u = kd u) → yesN S' kd' a n = yesN S kd a n
  | 0, _ => rfl
  | n + 1, hk => by
    have ih := yesN_c h0 h1 h2 (a := a) (n := n) (fun u hu => hk u (Nat.lt_succ_of_lt hu))
    simp only [yesN, ih, isY_c h0 h1 h2 (hk n (by omega))]
theorem chfN_c {S S' : kSt} (h0 : S'.1 0 0 = S.1 0 0) (h1 : ∀ j, S'.1 1 j = S.1 1 j) (h2 : ∀ j, S'.1 2 j = S.1 2 j) {kd kd' : Nat → Int32} {a : Nat} : ∀ {n : Nat}, (∀ u, u < n → kd' u = kd u) → chfN S' kd' a n = chfN S kd a n
  | 0, _ => rfl
  | n + 1, hk => by
    have ih := chfN_c h0 h1 h2 (a := a) (n := n) (fun u hu => hk u (Nat.lt_succ_of_lt hu))
    simp only [chfN, ih, isY_c h0 h1 h2 (hk n (by omega)), h1]
theorem cntN_c {S S' : kSt} (h0 : S'.1 0 0 = S.1 0 0) (h1 : ∀ j, S'.1 1 j = S.1 1 j) (h2 : ∀ j, S'.1 2 j = S.1 2 j) {kd kd' : Nat → Int32} : ∀ {n : Nat}, (∀ u, u < n → kd' u = kd u) → cntN S' kd' n = cntN S kd n
  | 0, _ => rfl
  | n + 1, hk => by
    have ih := cntN_c h0 h1 h2 (n := n) (fun u hu => hk u (Nat.lt_succ_of_lt hu))
    simp only [cntN, ih, cnts_c h0 h1 h2 (hk n (by omega))]
theorem appr_c {S S' : kSt} (h0 : S'.1 0 0 = S.1 0 0) (h1 : ∀ j, S'.1 1 j = S.1 1 j) (h2 : ∀ j, S'.1 2 j = S.1 2 j) {kd kd' : Nat → Int32} {a n : Nat} {x : Int32} (hk : ∀ u, u < n → kd' u = kd u) : appr S' kd' a n x = appr S kd a n x := by
  simp only [appr, bar_c h0 h1 h2 hk, yesN_c h0 h1 h2 hk, chfN_c h0 h1 h2 hk]
theorem cl_nI {n : Nat} (h : n < 2 ^ 31) : cl (nI n) = n := nI_clamp h
theorem chan_inB (x : Int32) : inR x 0 5 = inB x 6 := by
  have h := inB_rng (u := x) (n := 6) (by decide)
  have e : nI 6 - 1 = (5 : Int32) := by decide
  rw [e] at h
  exact h
theorem sR_s {S : kSt} {f a n : Nat} {v : Int32} : sI (sR S f a n v) f (a + n) v = sR S f a (n + 1) v := by
  refine Prod.ext ?_ rfl
  funext g j
  simp only [sI, sR]
  by_cases h1 : g = f
  · by_cases h2 : j = a + n
    · simp [h1, h2]
    · by_cases h3 : a ≤ j ∧ j < a + n
      · rw [if_neg (fun z => h2 z.2), if_pos ⟨h1, h3⟩, if_pos ⟨h1, by omega⟩]
      · rw [if_neg (fun z => h2 z.2), if_neg (fun z => h3 z.2), if_neg (fun z => h3 ⟨z.2.1, by have := z.2; omega⟩)]
  · simp [h1]
theorem sR_0 {S : kSt} {f a : Nat} {v : Int32} : sR S f a 0 v = S := by
  refine Prod.ext ?_ rfl
  funext g j
  simp only [sR]
  rw [if_neg (by omega)]
theorem sI_id (S : kSt) (f i : Nat) : sI S f i (S.1 f i) = S := by
  refine Prod.ext ?_ rfl
  funext g j
  simp only [sI]
  split
  · rename_i h; rw [h.1, h.2]
  · rfl
theorem drp_r (S : kSt) (m : Nat) : ∀ n, (drp S m n).2 = S.2 ∧ (∀ f j, f ≠ 14 → (drp S m n).1 f j = S.1 f j) ∧ ∀ j, n ≤ j → (drp S m n).1 14 j = S.1 14 j
  | 0 => ⟨rfl, fun _ _ _ => rfl, fun _ _ => rfl⟩
  | n + 1 => by
    obtain ⟨h1, h2, h3⟩ := drp_r S m n
    refine ⟨?_, fun f j ha => ?_, fun j hj => ?_⟩
    · simp only [drp]
      split
      · exact h1
      · exact h1
    · simp only [drp]
      split
      · simp [sI, ha, h2 f j ha]
      · exact h2 f j ha
    · simp only [drp]
      split
      · have : j ≠ n := by omega
        simp [sI, this, h3 j (by omega)]
      · exact h3 j (by omega)
def oPostM (S : kSt) (u c p : Int32) : kSt := sN (sR (sI (sI (sN (sN S 1 (S.2 0 1) (cl u)) 2 (S.2 0 1) (cl c)) 5 (S.2 0 1) p) 6 (S.2 0 1) (S.1 0 0)) 21 (12 * S.2 0 1) 12 (-1)) 0 1 (S.2 0 1 + 1)
def oEd0 (S : kSt) (m : Int32) : kSt := drp (sI S 7 (cl m) (S.1 7 (cl m) + 1)) (cl m) (S.2 0 3)
def oEditM (S : kSt) (m : Int32) : kSt := stl (oEd0 S m) (kdT (oEd0 S m)) (S.2 0 2)
def oMk0 (S : kSt) (u m x : Int32) : kSt := sI (sI S 21 (12 * cl m + cl u) x) 22 (12 * cl m + cl u) (S.1 7 (cl m))
def oMarkM (S : kSt) (u m x : Int32) : kSt := stl (oMk0 S u m x) (kdT (oMk0 S u m x)) (S.2 0 2)
theorem m1_lt {n : Nat} (h : n < 2 ^ 30) : nI n - 1 < 0 ↔ n = 0 := by
  have h1 := pk_sub_toInt (a := n) (b := 1) h (by decide)
  rw [Int32.lt_iff_toInt_lt, show (1 : Int32) = nI 1 from rfl, h1, show (0 : Int32).toInt = 0 from rfl]
  omega
theorem inR_h {x : Int32} (h : inR x 1 1000 = true) : ∃ j : Nat, 1 ≤ j ∧ j ≤ 1000 ∧ x = nI j := by
  simp only [inR, Bool.and_eq_true, decide_eq_true_eq] at h
  have h1 := Int32.le_iff_toInt_le.mp h.1
  have h2 := Int32.le_iff_toInt_le.mp h.2
  rw [show (1 : Int32).toInt = 1 from rfl] at h1
  rw [show (1000 : Int32).toInt = 1000 from rfl] at h2
  obtain ⟨j, hj, rfl⟩ := vp_in_of (x := x) (n := 1001) (vp_in_iff.mpr ⟨by omega, by omega⟩) (by decide)
  rw [nI_toInt (by omega)] at h1 h2
  exact ⟨j, by omega, by omega, rfl⟩
theorem inR_6 {x : Int32} (h : inR x 0 6 = true) : x = 0 ∨ x = 1 ∨ x = 2 ∨ x = 3 ∨ x = 4 ∨ x = 5 ∨ x = 6 := by
  simp only [inR, Bool.and_eq_true, decide_eq_true_eq] at h
  have h1 := Int32.le_iff_toInt_le.mp h.1
  have h2 := Int32.le_iff_toInt_le.mp h.2
  rw [show (0 : Int32).toInt = 0 from rfl] at h1
  rw [show (6 : Int32).toInt = 6 from rfl] at h2
  obtain ⟨j, hj, rfl⟩ := vp_in_of (x := x) (n := 7) (vp_in_iff.mpr ⟨by omega, by omega⟩) (by decide)
  match j, hj with
  | 0, _ => exact Or.inl rfl
  | 1, _ => exact Or.inr (Or.inl rfl)
  | 2, _ => exact Or.inr (Or.inr (Or.inl rfl))
  | 3, _ => exact Or.inr (Or.inr (Or.inr (Or.inl rfl)))
  | 4, _ => exact Or.inr (Or.inr (Or.inr (Or.inr (Or.inl rfl))))
  | 5, _ => exact Or.inr (Or.inr (Or.inr (Or.inr (Or.inr (Or.inl rfl)))))
  | 6, _ => exact Or.inr (Or.inr (Or.inr (Or.inr (Or.inr (Or.inr rfl)))))
  | _ + 7, h => exact absurd h (by omega)
def itP (S : kSt) (kd : Nat → Nat → Int32) : Nat → kSt
  | 0 => S
  | n + 1 => stl (sI (itP S kd n) 0 0 ((itP S kd n).1 0 0 + 1)) kd (S.2 0 2)
theorem itP_r (S : kSt) (kd : Nat → Nat → Int32) : ∀ n, (itP S kd n).2 = S.2 ∧ ∀ f j, f ≠ 12 → f ≠ 3 → f ≠ 0 → (itP S kd n).1 f j = S.1 f j
  | 0 => ⟨rfl, fun _ _ _ _ _ => rfl⟩
  | n + 1 => by
    obtain ⟨h1, h2⟩ := itP_r S kd n
    obtain ⟨g1, g2, -⟩ := stl_r (sI (itP S kd n) 0 0 ((itP S kd n).1 0 0 + 1)) kd (S.2 0 2)
    exact ⟨g1.trans h1, fun f j a b c => (g2 f j a b).trans ((sI_f c).trans (h2 f j a b c))⟩
def pd (n : Nat) : Nat → List Nat
  | 0 => [48 + n % 10]
  | k + 1 => (48 + n / 10 ^ (k + 1) % 10) :: pd n k
theorem pd_len (n : Nat) : ∀ k, (pd n k).length = k + 1
  | 0 => rfl
  | k + 1 => by rw [pd, List.length_cons, pd_len n k]
theorem pd_app (n : Nat) : ∀ k, pd n (k + 1) = pd (n / 10) k ++ [48 + n % 10]
  | 0 => by simp [pd]
  | k + 1 => by
    have ih := pd_app n k
    rw [pd, ih]
    simp only [pd, List.cons_append]
    rw [Nat.div_div_eq_div_mul, show (10 : Nat) ^ (k + 1 + 1) = 10 * 10 ^ (k + 1) from by rw [Nat.pow_succ, Nat.mul_comm]]
theorem dgs_pd : ∀ (f k n : Nat), k < f → n < 10 ^ (k + 1) → (k = 0 ∨ 10 ^ k ≤ n) → dgs f n = pd n k
  | 0, _, _, h, _, _ => absurd h (Nat.not_lt_zero _)
  | f + 1, 0, n, _, h, _ => by
    have : n < 10 := by simpa using h
    simp only [dgs, pd]
    rw [if_pos this, Nat.mod_eq_of_lt this]
  | f + 1, k + 1, n, hf, h, h2 => by
    have h3 : 10 ^ (k + 1) ≤ n := h2.resolve_left (by omega)
    have h4 : 10 ≤ 10 ^ (k + 1) := by rw [Nat.pow_succ]; have := Nat.pow_pos (n := k) (show 0 < 10 by decide); omega
    have e1 : (10 : Nat) ^ (k + 1 + 1) = 10 ^ (k + 1) * 10 := Nat.pow_succ ..
    have e2 : (10 : Nat) ^ (k + 1) = 10 ^ k * 10 := Nat.pow_succ ..
    simp only [dgs]
    rw [if_neg (by omega), pd_app, dgs_pd f k (n / 10) (by omega) (by omega) (Or.inr (by omega))]
theorem dgs_len : ∀ (f n : Nat), (dgs f n).length ≤ f
  | 0, _ => Nat.le_refl _
  | f + 1, n => by
    simp only [dgs]
    split
    · simp
    · have := dgs_len f (n / 10)
      simp; omega
theorem dgs_lenk : ∀ (f k n : Nat), n < 10 ^ (k + 1) → (dgs f n).length ≤ k + 1
  | 0, _, _, _ => Nat.zero_le _
  | f + 1, 0, n, h => by
    have : n < 10 := by simpa using h
    simp only [dgs]
    rw [if_pos this]
    exact Nat.le_refl 1
  | f + 1, k + 1, n, h => by
    simp only [dgs]
    split
    · simp
    · have e1 : (10 : Nat) ^ (k + 1 + 1) = 10 ^ (k + 1) * 10 := Nat.pow_succ ..
      have := dgs_lenk f k (n / 10) (by omega)
      simp
      omega
theorem dgs_lt : ∀ (f n c : Nat), c ∈ dgs f n → c < 58
  | 0, _, _, h => absurd h List.not_mem_nil
  | f + 1, n, c, h => by
    simp only [dgs] at h
    split at h
    · simp at h; omega
    · rcases List.mem_append.mp h with h | h
      · exact dgs_lt f _ c h
      · simp at h; omega
theorem lab_lt (S : kSt) (t c : Nat) (h : c ∈ lab S t) : c < 65 := by
  simp only [lab, List.mem_append, List.mem_cons] at h
  rcases h with h | h | h | h | h | h | h
  · have := dgs_lt _ _ _ h; omega
  · omega
  · have := dgs_lt _ _ _ h; omega
  · omega
  · have := dgs_lt _ _ _ h; omega
  · omega
  · have := dgs_lt _ _ _ h; omega
theorem getD_lt {l : List Nat} {b : Nat} (h : ∀ c, c ∈ l → c < b) (hb : 0 < b) (i : Nat) : l.getD i 0 < b := by
  rw [List.getD_eq_getElem?_getD]
  cases hx : l[i]? with
  | none => exact hb
  | some c => exact h c (List.mem_of_getElem? hx)
theorem cl_lt (x : Int32) (h : ¬ x < 0) : cl x < 2 ^ 31 ∧ x = nI (cl x) := by
  obtain ⟨j, hj, rfl⟩ := nI_of h
  rw [show cl (nI j) = j from nI_clamp hj]
  exact ⟨hj, rfl⟩
