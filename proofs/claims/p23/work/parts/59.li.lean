/-! THE LAW'S OWN STEPS keep the tie -/
def LTmj (M A : kSt) (j : Nat) : Prop := A.1 2 j = nI (encm M j) ∧ A.1 3 j = M.1 7 j ∧ A.1 4 j = M.1 6 j ∧ kE8 (kdS M j) (A.1 5 j) ∧ (pm M j ≤ 30 ∧ M.1 5 j = nI (pm M j) - 1) ∧ (M.1 8 j = 0 ∨ M.1 8 j = 1) ∧ ∃ h, h < 100000 ∧ M.1 6 j = nI h
def LTsj (M A : kSt) (j : Nat) : Prop := A.1 7 j = nI (encs M j) ∧ A.1 8 j = M.1 11 j ∧ (∃ v, v < 128 ∧ M.1 10 j = nI v) ∧ (M.1 12 j = 0 ∨ M.1 12 j = 1)
def LTtj (M A : kSt) (j : Nat) : Prop := A.1 9 j = nI (enct M j) ∧ A.1 10 j = M.1 13 j ∧ (∃ v, v < 128 ∧ M.1 20 j = nI v) ∧ ∃ q, q < 3 ∧ M.1 14 j = nI q
section LTP
variable {M M' A A' : kSt} {j : Nat}
theorem LTmj.c (h : LTmj M A j) (n1 : M'.2 1 j = M.2 1 j) (n2 : M'.2 2 j = M.2 2 j) (r5 : M'.1 5 j = M.1 5 j) (r6 : M'.1 6 j = M.1 6 j) (r7 : M'.1 7 j = M.1 7 j) (r8 : M'.1 8 j = M.1 8 j) (k : kdS M' j = kdS M j) (a2 : A'.1 2 j = A.1 2 j) (a3 : A'.1 3 j = A.1 3 j) (a4 : A'.1 4 j = A.1 4 j) (a5 : A'.1 5 j = A.1 5 j) : LTmj M' A' j := by
  unfold LTmj encm pm; rw [n1, n2, r5, r6, r7, r8, k, a2, a3, a4, a5]; exact h
theorem LTsj.c (h : LTsj M A j) (n3 : M'.2 3 j = M.2 3 j) (r10 : M'.1 10 j = M.1 10 j) (r11 : M'.1 11 j = M.1 11 j) (r12 : M'.1 12 j = M.1 12 j) (a7 : A'.1 7 j = A.1 7 j) (a8 : A'.1 8 j = A.1 8 j) : LTsj M' A' j := by
  unfold LTsj encs; rw [n3, r10, r11, r12, a7, a8]; exact h
theorem LTtj.c (h : LTtj M A j) (n4 : M'.2 4 j = M.2 4 j) (n5 : M'.2 5 j = M.2 5 j) (r13 : M'.1 13 j = M.1 13 j) (r14 : M'.1 14 j = M.1 14 j) (r20 : M'.1 20 j = M.1 20 j) (a9 : A'.1 9 j = A.1 9 j) (a10 : A'.1 10 j = A.1 10 j) : LTtj M' A' j := by
  unfold LTtj enct; rw [n4, n5, r13, r14, r20, a9, a10]; exact h
theorem LTg.d (h : LTg M A) (r0 : M'.1 0 0 = M.1 0 0) (n : ∀ j, j < 4 → M'.2 0 j = M.2 0 j) (a : ∀ j, j < 5 → A'.1 11 j = A.1 11 j) : LTg M' A' := by
  unfold LTg
  rw [r0, n 0 (by decide), n 1 (by decide), n 2 (by decide), n 3 (by decide), a 0 (by decide), a 1 (by decide), a 2 (by decide), a 3 (by decide), a 4 (by decide)]
  exact h
theorem LTn.d (h : LTn M) (n : ∀ j, j < 4 → M'.2 0 j = M.2 0 j) : LTn M' := by unfold LTn; rw [n 0 (by decide), n 1 (by decide), n 2 (by decide), n 3 (by decide)]; exact h
end LTP
section LTS
variable {M A : kSt} {n : Nat}
theorem fn3 {S : kSt} {f i f' i' f2 i2 g : Nat} {v v' v2 : Int32} (h : g ≠ f ∧ g ≠ f' ∧ g ≠ f2) : (sI (sI (sI S f i v) f' i' v') f2 i2 v2).1 g = S.1 g := (sI_fn h.2.2).trans ((sI_fn h.2.1).trans (sI_fn h.1))
/-- the sum is told beside -/
theorem LT.g5 (h : LT M A) (y : Int32) : LT M (sI A 11 5 y) := by
  obtain ⟨hg, hn, hu, hm, hz, hb, hs, ht⟩ := h
  exact ⟨hg.c rfl rfl (fun j hj => sI_n (by omega)), hn, hu.c rfl rfl rfl (sI_fn (by decide)), hm.c rfl rfl rfl rfl rfl rfl rfl rfl (sI_fn (by decide)) (sI_fn (by decide)) (sI_fn (by decide)) (sI_fn (by decide)), hz.c (Nat.le_refl _) (sI_fn (by decide)) (sI_fn (by decide)), hb.c rfl rfl (sI_fn (by decide)), hs.c rfl rfl rfl rfl rfl (sI_fn (by decide)) (sI_fn (by decide)), ht.c rfl rfl rfl rfl rfl rfl (sI_fn (by decide)) (sI_fn (by decide))⟩
theorem LT.role (h : LT M A) {j r : Nat} (hj : j < M.2 0 0) (hr : r < 4) : LT (sI M 1 j (nI r)) (sI A 1 j (nI r)) := by
  have hc := h.c.1
  obtain ⟨hg, hn, hu, hm, hz, hb, hs, ht⟩ := h
  refine ⟨hg.c (sI_f (by decide)) rfl (fun j _ => sI_f (by decide)), hn, fun q hq => ?_, hm.c rfl rfl rfl (sI_fn (by decide)) (sI_fn (by decide)) (sI_fn (by decide)) (sI_fn (by decide)) (kdS_sI (by decide)) (sI_fn (by decide)) (sI_fn (by decide)) (sI_fn (by decide)) (sI_fn (by decide)), hz.c (Nat.le_refl _) (sI_fn (by decide)) (sI_fn (by decide)), hb.c (sI_fn (by decide)) (sI_fn (by decide)) (sI_fn (by decide)), hs.c rfl rfl (sI_fn (by decide)) (sI_fn (by decide)) (sI_fn (by decide)) (sI_fn (by decide)) (sI_fn (by decide)), ht.c rfl rfl rfl (sI_fn (by decide)) (sI_fn (by decide)) (sI_fn (by decide)) (sI_fn (by decide)) (sI_fn (by decide))⟩
  have hq : q < M.2 0 0 := hq
  obtain ⟨u1, u2, u3, u4⟩ := hu q hq
  refine ⟨?_, ?_, ?_, ?_⟩
  · by_cases e : q = j
    · rw [e, sI_s, sI_s]
    · rw [sI_n e, sI_n e]; exact u1
  · rw [sI_n (by omega), sI_f (by decide)]; exact u2
  · by_cases e : q = j
    · rw [e, sI_s]; exact ⟨r, hr, rfl⟩
    · rw [sI_n e]; exact u3
  · rw [sI_f (by decide)]; exact u4
theorem LT.ends (h : LT M A) {j : Nat} {x : Int32} (hj : j < M.2 0 0) (hx : x = -1 ∨ 0 ≤ x) : LT (sI M 2 j x) (sI A 1 (8 + j) x) := by
  have hc := h.c.1
  obtain ⟨hg, hn, hu, hm, hz, hb, hs, ht⟩ := h
  refine ⟨hg.c (sI_f (by decide)) rfl (fun j _ => sI_f (by decide)), hn, fun q hq => ?_, hm.c rfl rfl rfl (sI_fn (by decide)) (sI_fn (by decide)) (sI_fn (by decide)) (sI_fn (by decide)) (kdS_sI (by decide)) (sI_fn (by decide)) (sI_fn (by decide)) (sI_fn (by decide)) (sI_fn (by decide)), hz.c (Nat.le_refl _) (sI_fn (by decide)) (sI_fn (by decide)), hb.c (sI_fn (by decide)) (sI_fn (by decide)) (sI_fn (by decide)), hs.c rfl rfl (sI_fn (by decide)) (sI_fn (by decide)) (sI_fn (by decide)) (sI_fn (by decide)) (sI_fn (by decide)), ht.c rfl rfl rfl (sI_fn (by decide)) (sI_fn (by decide)) (sI_fn (by decide)) (sI_fn (by decide)) (sI_fn (by decide))⟩
  have hq : q < M.2 0 0 := hq
  obtain ⟨u1, u2, u3, u4⟩ := hu q hq
  refine ⟨?_, ?_, ?_, ?_⟩
  · rw [sI_n (by omega), sI_f (by decide)]; exact u1
  · by_cases e : q = j
    · rw [e, sI_s, sI_s]
    · rw [sI_n (by omega), sI_n e]; exact u2
  · rw [sI_f (by decide)]; exact u3
  · by_cases e : q = j
    · rw [e, sI_s]; exact hx
    · rw [sI_n e]; exact u4
theorem LT.hour (h : LT M A) (x : Int32) : LT (sI M 0 0 x) (sI A 11 0 x) := by
  obtain ⟨⟨g0, g1, g2, g3, g4⟩, hn, hu, hm, hz, hb, hs, ht⟩ := h
  exact ⟨⟨by rw [sI_s, sI_s], by rw [sI_n (by decide)]; exact g1, by rw [sI_n (by decide)]; exact g2, by rw [sI_n (by decide)]; exact g3, by rw [sI_n (by decide)]; exact g4⟩, hn, hu.c rfl (sI_fn (by decide)) (sI_fn (by decide)) (sI_fn (by decide)), hm.c rfl rfl rfl (sI_fn (by decide)) (sI_fn (by decide)) (sI_fn (by decide)) (sI_fn (by decide)) (kdS_sI (by decide)) (sI_fn (by decide)) (sI_fn (by decide)) (sI_fn (by decide)) (sI_fn (by decide)), hz.c (Nat.le_refl _) (sI_fn (by decide)) (sI_fn (by decide)), hb.c (sI_fn (by decide)) (sI_fn (by decide)) (sI_fn (by decide)), hs.c rfl rfl (sI_fn (by decide)) (sI_fn (by decide)) (sI_fn (by decide)) (sI_fn (by decide)) (sI_fn (by decide)), ht.c rfl rfl rfl (sI_fn (by decide)) (sI_fn (by decide)) (sI_fn (by decide)) (sI_fn (by decide)) (sI_fn (by decide))⟩
theorem LT.bx (h : LT M A) {i : Nat} (hi : i = 7 ∨ i = 14) (y : Int32) : LT M (sI A 6 i y) := by
  obtain ⟨hg, hn, hu, hm, hz, hb, hs, ht⟩ := h
  exact ⟨hg.c rfl rfl (fun j _ => sI_f (by decide)), hn, hu.c rfl rfl rfl (sI_fn (by decide)), hm.c rfl rfl rfl rfl rfl rfl rfl rfl (sI_fn (by decide)) (sI_fn (by decide)) (sI_fn (by decide)) (sI_fn (by decide)), hz.c (Nat.le_refl _) (sI_fn (by decide)) (sI_fn (by decide)), fun j hj => by
    obtain ⟨b1, b2, b3⟩ := hb j hj
    exact ⟨(sI_n (by omega)).trans b1, (sI_n (by omega)).trans b2, b3⟩, hs.c rfl rfl rfl rfl rfl (sI_fn (by decide)) (sI_fn (by decide)), ht.c rfl rfl rfl rfl rfl rfl (sI_fn (by decide)) (sI_fn (by decide))⟩
theorem LT.budg (h : LT M A) {c : Nat} (hc : c < 6) (y : Int32) : LT (sI M 3 c y) (sI A 6 c y) := by
  obtain ⟨hg, hn, hu, hm, hz, hb, hs, ht⟩ := h
  refine ⟨hg.c (sI_f (by decide)) rfl (fun j _ => sI_f (by decide)), hn, hu.c rfl (sI_fn (by decide)) (sI_fn (by decide)) (sI_fn (by decide)), hm.c rfl rfl rfl (sI_fn (by decide)) (sI_fn (by decide)) (sI_fn (by decide)) (sI_fn (by decide)) (kdS_sI (by decide)) (sI_fn (by decide)) (sI_fn (by decide)) (sI_fn (by decide)) (sI_fn (by decide)), hz.c (Nat.le_refl _) (sI_fn (by decide)) (sI_fn (by decide)), fun j hj => ?_, hs.c rfl rfl (sI_fn (by decide)) (sI_fn (by decide)) (sI_fn (by decide)) (sI_fn (by decide)) (sI_fn (by decide)), ht.c rfl rfl rfl (sI_fn (by decide)) (sI_fn (by decide)) (sI_fn (by decide)) (sI_fn (by decide)) (sI_fn (by decide))⟩
  obtain ⟨b1, b2, b3⟩ := hb j hj
  refine ⟨?_, ?_, ?_⟩
  · by_cases e : j = c
    · rw [e, sI_s, sI_s]
    · rw [sI_n e, sI_n e]; exact b1
  · rw [sI_n (by omega), sI_f (by decide)]; exact b2
  · rw [sI_f (by decide)]; exact b3
theorem LT.hold (h : LT M A) {c : Nat} (hc : c < 6) {y : Int32} (hy : y = 0 ∨ y = 1) : LT (sI M 4 c y) (sI A 6 (8 + c) y) := by
  obtain ⟨hg, hn, hu, hm, hz, hb, hs, ht⟩ := h
  refine ⟨hg.c (sI_f (by decide)) rfl (fun j _ => sI_f (by decide)), hn, hu.c rfl (sI_fn (by decide)) (sI_fn (by decide)) (sI_fn (by decide)), hm.c rfl rfl rfl (sI_fn (by decide)) (sI_fn (by decide)) (sI_fn (by decide)) (sI_fn (by decide)) (kdS_sI (by decide)) (sI_fn (by decide)) (sI_fn (by decide)) (sI_fn (by decide)) (sI_fn (by decide)), hz.c (Nat.le_refl _) (sI_fn (by decide)) (sI_fn (by decide)), fun j hj => ?_, hs.c rfl rfl (sI_fn (by decide)) (sI_fn (by decide)) (sI_fn (by decide)) (sI_fn (by decide)) (sI_fn (by decide)), ht.c rfl rfl rfl (sI_fn (by decide)) (sI_fn (by decide)) (sI_fn (by decide)) (sI_fn (by decide)) (sI_fn (by decide))⟩
  obtain ⟨b1, b2, b3⟩ := hb j hj
  refine ⟨?_, ?_, ?_⟩
  · rw [sI_n (by omega), sI_f (by decide)]; exact b1
  · by_cases e : j = c
    · rw [e, sI_s, sI_s]
    · rw [sI_n (by omega), sI_n e]; exact b2
  · by_cases e : j = c
    · rw [e, sI_s]; exact hy
    · rw [sI_n e]; exact b3
theorem LT.t30 (h : LT M A) (y : Int32) : LT M (sI A 9 30 y) := by
  have hc := h.c.2.2.2
  obtain ⟨hg, hn, hu, hm, hz, hb, hs, ht⟩ := h
  exact ⟨hg.c rfl rfl (fun j _ => sI_f (by decide)), hn, hu.c rfl rfl rfl (sI_fn (by decide)), hm.c rfl rfl rfl rfl rfl rfl rfl rfl (sI_fn (by decide)) (sI_fn (by decide)) (sI_fn (by decide)) (sI_fn (by decide)), hz.c (Nat.le_refl _) (sI_fn (by decide)) (sI_fn (by decide)), hb.c rfl rfl (sI_fn (by decide)), hs.c rfl rfl rfl rfl rfl (sI_fn (by decide)) (sI_fn (by decide)), fun j hj => LTtj.c (M := M) (A := A) (ht j hj) rfl rfl rfl rfl rfl (sI_n (by omega)) (sI_f (by decide))⟩
/-- a task's state told: DONE or DROPPED -/
theorem LT.tsk (h : LT M A) {i q : Nat} (hi : i < M.2 0 3) (h14 : M.1 14 i = 0) (hq : q < 3) : LT (sI M 14 i (nI q)) (sI A 9 i (nI (enct M i + 131072 * q))) := by
  obtain ⟨hg, hn, hu, hm, hz, hb, hs, ht⟩ := h
  refine ⟨hg.c (sI_f (by decide)) rfl (fun j _ => sI_f (by decide)), hn, hu.c rfl (sI_fn (by decide)) (sI_fn (by decide)) (sI_fn (by decide)), hm.c rfl rfl rfl (sI_fn (by decide)) (sI_fn (by decide)) (sI_fn (by decide)) (sI_fn (by decide)) (kdS_sI (by decide)) (sI_fn (by decide)) (sI_fn (by decide)) (sI_fn (by decide)) (sI_fn (by decide)), hz.c (Nat.le_refl _) (sI_fn (by decide)) (sI_fn (by decide)), hb.c (sI_fn (by decide)) (sI_fn (by decide)) (sI_fn (by decide)), hs.c rfl rfl (sI_fn (by decide)) (sI_fn (by decide)) (sI_fn (by decide)) (sI_fn (by decide)) (sI_fn (by decide)), fun j hj => ?_⟩
  by_cases e : j = i
  · rw [e]
    obtain ⟨t1, t2, t3, t4⟩ := ht i hi
    refine ⟨?_, ?_, ?_, ?_⟩
    · rw [sI_s]
      refine congrArg nI ?_
      unfold enct
      rw [h14, show (sI M 14 i (nI q)).1 20 = M.1 20 from sI_fn (by decide), sI_s, show (nI q).toNatClampNeg = q from nI_clamp (by omega)]
      show M.2 4 i + 64 * _ + 8192 * M.2 5 i + 131072 * 0 + 131072 * q = M.2 4 i + 64 * _ + 8192 * M.2 5 i + 131072 * q
      omega
    · rw [sI_f (by decide), sI_f (by decide)]; exact t2
    · rw [sI_f (by decide)]; exact t3
    · rw [sI_s]; exact ⟨q, hq, rfl⟩
  · exact LTtj.c (M := M) (A := A) (ht j hj) rfl rfl (sI_f (by decide)) (sI_n e) (sI_f (by decide)) (sI_n e) (sI_f (by decide))
/-- a line of the log: nothing of the law's -/
theorem LT.lg (h : LT M A) (a b c : Int32) : LT (lgE M a b c) A := by
  obtain ⟨hg, hn, hu, hm, hz, hb, hs, ht⟩ := h
  have e : ∀ f, f ≠ 15 ∧ f ≠ 16 ∧ f ≠ 17 → (lgE M a b c).1 f = M.1 f := fun f hf => fn3 hf
  have n0 : ∀ j, j < 4 → (lgE M a b c).2 0 j = M.2 0 j := fun j hj => sN_n (by omega)
  exact ⟨hg.d (by rw [e 0 (by decide)]) n0 (fun j _ => rfl), hn.d n0, hu.c (n0 0 (by decide)) (e 1 (by decide)) (e 2 (by decide)) rfl, hm.c (n0 1 (by decide)) (sN_fn (by decide)) (sN_fn (by decide)) (e 5 (by decide)) (e 6 (by decide)) (e 7 (by decide)) (e 8 (by decide)) (kdS_f (fun m => e _ (by omega))) rfl rfl rfl rfl, hz.c (Nat.le_of_eq (n0 1 (by decide)).symm) rfl rfl, hb.c (e 3 (by decide)) (e 4 (by decide)) rfl, hs.c (n0 2 (by decide)) (sN_fn (by decide)) (e 10 (by decide)) (e 11 (by decide)) (e 12 (by decide)) rfl rfl, ht.c (n0 3 (by decide)) (sN_fn (by decide)) (sN_fn (by decide)) (e 13 (by decide)) (e 14 (by decide)) (e 20 (by decide)) rfl rfl⟩
/-- a message's version and marks told anew -/
theorem LT.msg (h : LT M A) {M' : kSt} {a : Nat} {v x : Int32} (h2 : M'.2 = M.2) (h7 : M'.1 7 = (sI M 7 a v).1 7) (hk : ∀ m, m ≠ a → kdS M' m = kdS M m) (hr : ∀ f, f < 100 → f ≠ 7 → M'.1 f = M.1 f) (ha : a < M.2 0 1) (hx : kE8 (kdS M' a) x) : LT M' (sI (sI A 3 a v) 5 a x) := by
  obtain ⟨hg, hn, hu, hm, hz, hb, hs, ht⟩ := h
  have e2 : ∀ g, M'.2 g = M.2 g := fun g => by rw [h2]
  have e0 : M'.2 0 = M.2 0 := e2 0
  refine ⟨hg.c (by rw [hr 0 (by decide) (by decide)]) e0 (fun j _ => (sI_f (by decide)).trans (sI_f (by decide))), hn.c e0, hu.c (by rw [e0]) (hr 1 (by decide) (by decide)) (hr 2 (by decide) (by decide)) (fn2 (by decide)), fun j hj => ?_, fun j h1 h3 => ?_, hb.c (hr 3 (by decide) (by decide)) (hr 4 (by decide) (by decide)) (fn2 (by decide)), hs.c (by rw [e0]) (e2 3) (hr 10 (by decide) (by decide)) (hr 11 (by decide) (by decide)) (hr 12 (by decide) (by decide)) (fn2 (by decide)) (fn2 (by decide)), ht.c (by rw [e0]) (e2 4) (e2 5) (hr 13 (by decide) (by decide)) (hr 14 (by decide) (by decide)) (hr 20 (by decide) (by decide)) (fn2 (by decide)) (fn2 (by decide))⟩
  · rw [e0] at hj
    have r5 := hr 5 (by decide) (by decide)
    have r6 := hr 6 (by decide) (by decide)
    have r8 := hr 8 (by decide) (by decide)
    by_cases e : j = a
    · rw [e]
      obtain ⟨m1, m2, m3, m4, m5, m6, m7⟩ := hm a ha
      refine ⟨?_, ?_, ?_, ?_, ?_, ?_, ?_⟩
      · rw [sI_f (by decide), sI_f (by decide), m1]
        unfold encm pm
        rw [e2 1, e2 2, r5, r8]
      · rw [sI_f (by decide), sI_s, h7, sI_s]
      · rw [sI_f (by decide), sI_f (by decide), r6]; exact m3
      · rw [sI_s]; exact hx
      · unfold pm at m5 ⊢; rw [r5]; exact m5
      · rw [r8]; exact m6
      · rw [r6]; exact m7
    · exact LTmj.c (M := M) (A := A) (hm j hj) (by rw [e2]) (by rw [e2]) (by rw [r5]) (by rw [r6]) (by rw [h7, sI_n e]) (by rw [r8]) (hk j e) (by rw [sI_f (by decide), sI_f (by decide)]) (by rw [sI_f (by decide), sI_n e]) (by rw [sI_f (by decide), sI_f (by decide)]) (by rw [sI_n e, sI_f (by decide)])
  · rw [e0] at h1
    obtain ⟨z1, z2⟩ := hz j h1 h3
    exact ⟨by rw [sI_f (by decide), sI_n (by omega)]; exact z1, by rw [sI_n (by omega), sI_f (by decide)]; exact z2⟩
end LTS
