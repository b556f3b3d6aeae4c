/-! THE LAW'S NUMBERS: digits of three bits, sums of fields -/
def k8 (d : Nat → Nat) : Nat := d 0 + 8 * d 1 + 64 * d 2 + 512 * d 3 + 4096 * d 4 + 32768 * d 5 + 262144 * d 6 + 2097152 * d 7
def d8 (d : Nat → Nat) : Prop := ∀ u, u < 8 → d u < 8
theorem d8.all {d : Nat → Nat} (h : d8 d) : d 0 < 8 ∧ d 1 < 8 ∧ d 2 < 8 ∧ d 3 < 8 ∧ d 4 < 8 ∧ d 5 < 8 ∧ d 6 < 8 ∧ d 7 < 8 :=
  ⟨h 0 (by decide), h 1 (by decide), h 2 (by decide), h 3 (by decide), h 4 (by decide), h 5 (by decide), h 6 (by decide), h 7 (by decide)⟩
theorem k8_lt {d : Nat → Nat} (h : d8 d) : k8 d < 16777216 := by
  have := h.all
  unfold k8
  omega
theorem k8_at {d : Nat → Nat} (h : d8 d) : ∀ u, u < 8 → k8 d / 2 ^ (3 * u) % 8 = d u := by
  obtain ⟨h0, h1, h2, h3, h4, h5, h6, h7⟩ := h.all
  intro u hu
  unfold k8
  match u, hu with
  | 0, _ => show _ / 1 % 8 = _; omega
  | 1, _ => show _ / 8 % 8 = _; omega
  | 2, _ => show _ / 64 % 8 = _; omega
  | 3, _ => show _ / 512 % 8 = _; omega
  | 4, _ => show _ / 4096 % 8 = _; omega
  | 5, _ => show _ / 32768 % 8 = _; omega
  | 6, _ => show _ / 262144 % 8 = _; omega
  | 7, _ => show _ / 2097152 % 8 = _; omega
def dset (d : Nat → Nat) (u a : Nat) : Nat → Nat := fun w => if w = u then a else d w
theorem dset_s {d : Nat → Nat} {u a : Nat} : dset d u a u = a := if_pos rfl
theorem dset_n {d : Nat → Nat} {u a w : Nat} (h : w ≠ u) : dset d u a w = d w := if_neg h
theorem d8.set {d : Nat → Nat} (h : d8 d) {u a : Nat} (ha : a < 8) : d8 (dset d u a) := by
  intro w hw
  unfold dset
  split
  · exact ha
  · exact h w hw
theorem k8_set {d : Nat → Nat} {a : Nat} : ∀ u, u < 8 → k8 (dset d u a) + d u * 2 ^ (3 * u) = k8 d + a * 2 ^ (3 * u) := by
  intro u hu
  unfold k8
  match u, hu with
  | 0, _ => show _ + _ * 1 = _ + _ * 1; simp only [dset, reduceIte, Nat.reduceEqDiff]; omega
  | 1, _ => show _ + _ * 8 = _ + _ * 8; simp only [dset, reduceIte, Nat.reduceEqDiff]; omega
  | 2, _ => show _ + _ * 64 = _ + _ * 64; simp only [dset, reduceIte, Nat.reduceEqDiff]; omega
  | 3, _ => show _ + _ * 512 = _ + _ * 512; simp only [dset, reduceIte, Nat.reduceEqDiff]; omega
  | 4, _ => show _ + _ * 4096 = _ + _ * 4096; simp only [dset, reduceIte, Nat.reduceEqDiff]; omega
  | 5, _ => show _ + _ * 32768 = _ + _ * 32768; simp only [dset, reduceIte, Nat.reduceEqDiff]; omega
  | 6, _ => show _ + _ * 262144 = _ + _ * 262144; simp only [dset, reduceIte, Nat.reduceEqDiff]; omega
  | 7, _ => show _ + _ * 2097152 = _ + _ * 2097152; simp only [dset, reduceIte, Nat.reduceEqDiff]; omega
theorem n_amt : ∀ u, u < 8 → ((nI (3 * u) &&& 31).toBitVec.smod 32).toNat = 3 * u := by decide +kernel
theorem n_p8 : ∀ u, u < 8 → 2 ^ (3 * u) ≤ 2097152 := by decide +kernel
theorem n_shr {K u : Nat} (hK : K < 2 ^ 31) (hu : u < 8) : nI K >>> (nI (3 * u) &&& 31) = nI (K / 2 ^ (3 * u)) := pk_shrN hK _ _ (n_amt u hu)
theorem n_shl {K u : Nat} (hK : K < 8) (hu : u < 8) : nI K <<< (nI (3 * u) &&& 31) = nI (K * 2 ^ (3 * u)) := pk_shlN _ _ (n_amt u hu) (by
  have := n_p8 u hu
  have h2 : K * 2 ^ (3 * u) ≤ 8 * 2097152 := Nat.mul_le_mul (Nat.le_of_lt hK) this
  omega)
theorem n_or (a b : Nat) : nI a ||| nI b = nI (a ||| b) := by
  rw [← Int32.toBitVec_inj]
  exact BitVec.ofNat_or.symm
theorem or_one (x : Nat) : x ||| 1 = 2 * (x / 2) + 1 := by
  have a := Nat.or_div_two (a := x) (b := 1)
  have b : (x ||| 1) % 2 = 1 := Nat.or_mod_two_eq_one.mpr (Or.inr rfl)
  rw [show 1 / 2 = 0 from rfl, Nat.or_zero] at a
  omega
theorem or_bit : ∀ (i K : Nat), K ||| 2 ^ i = (if K / 2 ^ i % 2 = 1 then K else K + 2 ^ i)
  | 0, K => by
    rw [show 2 ^ 0 = 1 from rfl, or_one, Nat.div_one]
    split <;> omega
  | i + 1, K => by
    have a := Nat.or_div_two (a := K) (b := 2 ^ (i + 1))
    have e : 2 ^ (i + 1) = 2 * 2 ^ i := by rw [Nat.pow_succ, Nat.mul_comm]
    have b : (K ||| 2 ^ (i + 1)) % 2 = K % 2 := by
      by_cases h : K % 2 = 1
      · rw [h]; exact Nat.or_mod_two_eq_one.mpr (Or.inl h)
      · have n : ¬ (K ||| 2 ^ (i + 1)) % 2 = 1 := fun z => by
          rcases Nat.or_mod_two_eq_one.mp z with z | z
          · exact h z
          · rw [e] at z; omega
        omega
    rw [show 2 ^ (i + 1) / 2 = 2 ^ i by rw [e]; omega, or_bit i (K / 2)] at a
    have f : K / 2 ^ (i + 1) = K / 2 / 2 ^ i := by rw [e, Nat.div_div_eq_div_mul]
    rw [f]
    generalize 2 ^ i = P at a e ⊢
    generalize K ||| 2 ^ (i + 1) = R at a b ⊢
    split at a <;> rename_i hc
    · rw [if_pos hc]; omega
    · rw [if_neg hc]; omega
/-- the bit that says that a mark is of an earlier version -/
def old4 (a : Nat) : Nat := if a % 4 = 0 then a else if a < 4 then a + 4 else a
theorem old4_lt {a : Nat} (h : a < 8) : old4 a < 8 := by
  unfold old4
  split
  · exact h
  · split <;> omega
theorem old4_12 {a : Nat} (h : a < 8) : old4 a ≠ 1 ∧ old4 a ≠ 2 := by
  unfold old4
  split
  · omega
  · split <;> omega
theorem k8_or4 {d : Nat → Nat} (h : d8 d) {u : Nat} (hu : u < 8) (h4 : ¬ d u % 4 = 0) : k8 d ||| 4 * 2 ^ (3 * u) = k8 (dset d u (old4 (d u))) := by
  have e : 4 * 2 ^ (3 * u) = 2 ^ (3 * u + 2) := by rw [Nat.pow_add, Nat.mul_comm]
  have q : k8 d / 2 ^ (3 * u + 2) % 2 = d u / 4 := by
    have a := k8_at h u hu
    have b := h u hu
    rw [Nat.pow_add, ← Nat.div_div_eq_div_mul]
    omega
  have s := k8_set (d := d) (a := old4 (d u)) u hu
  rw [e, or_bit, q, ← e]
  have b := h u hu
  generalize hk : k8 (dset d u (old4 (d u))) = K' at s ⊢
  unfold old4 at s
  rw [if_neg h4] at s
  by_cases hc : d u < 4
  · rw [if_neg (by omega)]
    rw [if_pos hc, Nat.add_mul] at s
    omega
  · rw [if_pos (by omega)]
    rw [if_neg hc] at s
    omega
theorem k8_same {d : Nat → Nat} {u : Nat} : dset d u (d u) = d := by
  funext w
  unfold dset
  split
  · rename_i h; rw [h]
  · rfl
theorem n_put {K K' a b u : Nat} (hK : K < 16777216) (hK' : K' < 16777216) (ha : a < 8) (hb : b < 8) (hu : u < 8) (h : K' + b * 2 ^ (3 * u) = K + a * 2 ^ (3 * u)) : nI K + ((nI a - nI b) <<< (nI (3 * u) &&& 31)) = nI K' := by
  have e := pk_shl (nI a - nI b) (nI (3 * u) &&& 31) (3 * u) (n_amt u hu)
  rw [← Int32.toBitVec_inj, ← BitVec.toNat_inj]
  have s : (nI K + ((nI a - nI b) <<< (nI (3 * u) &&& 31))).toBitVec.toNat = ((nI K).toBitVec.toNat + ((nI a - nI b) <<< (nI (3 * u) &&& 31)).toBitVec.toNat) % 2 ^ 32 := BitVec.toNat_add _ _
  have t : (nI a - nI b).toBitVec.toNat = (2 ^ 32 - (nI b).toBitVec.toNat + (nI a).toBitVec.toNat) % 2 ^ 32 := BitVec.toNat_sub _ _
  rw [s, e, t, pk_tn (by omega), pk_tn (by omega), pk_tn (by omega), pk_tn (by omega), Nat.mod_mul_mod, Nat.add_mod_mod]
  generalize 2 ^ (3 * u) = P at h
  have e1 : K + (2 ^ 32 - b + a) * P = K' + 2 ^ 32 * P := by
    rw [Nat.add_mul, Nat.sub_mul]
    have h1 : b * P ≤ 2 ^ 32 * P := Nat.mul_le_mul_right P (by omega)
    generalize b * P = x at h h1 ⊢
    generalize a * P = y at h ⊢
    generalize 2 ^ 32 * P = z at h1 ⊢
    omega
  rw [e1, Nat.add_mul_mod_self_left, Nat.mod_eq_of_lt (by omega)]
/-! THE TIE of the law's arrays (registers 1 to 11 of A) to a state M of the class's kind -/
def pm (M : kSt) (j : Nat) : Nat := (M.1 5 j + 1).toNatClampNeg
def encm (M : kSt) (j : Nat) : Nat := M.2 1 j + 16 * M.2 2 j + 128 * pm M j + 8192 * (M.1 8 j).toNatClampNeg
def encs (M : kSt) (j : Nat) : Nat := M.2 3 j + 64 * (M.1 10 j).toNatClampNeg + 65536 * (M.1 12 j).toNatClampNeg
def enct (M : kSt) (j : Nat) : Nat := M.2 4 j + 64 * (M.1 20 j).toNatClampNeg + 8192 * M.2 5 j + 131072 * (M.1 14 j).toNatClampNeg
def kE8 (kd : Nat → Int32) (x : Int32) : Prop := ∃ d, d8 d ∧ x = nI (k8 d) ∧ ∀ u, u < 8 → (d u = 1 ∧ kd u = 0) ∨ (d u = 2 ∧ kd u = 1) ∨ (kd u = -1 ∧ d u ≠ 1 ∧ d u ≠ 2)
def LTg (M A : kSt) : Prop := A.1 11 0 = M.1 0 0 ∧ A.1 11 1 = nI (M.2 0 0) ∧ A.1 11 2 = nI (M.2 0 1) ∧ A.1 11 3 = nI (M.2 0 2) ∧ A.1 11 4 = nI (M.2 0 3)
def LTn (M : kSt) : Prop := M.2 0 0 ≤ 8 ∧ M.2 0 1 ≤ 30 ∧ M.2 0 2 ≤ 30 ∧ M.2 0 3 ≤ 30
def LTu (M A : kSt) : Prop := ∀ j, j < M.2 0 0 → A.1 1 j = M.1 1 j ∧ A.1 1 (8 + j) = M.1 2 j ∧ (∃ r, r < 4 ∧ M.1 1 j = nI r) ∧ (M.1 2 j = -1 ∨ 0 ≤ M.1 2 j)
def LTm (M A : kSt) : Prop := ∀ j, j < M.2 0 1 → A.1 2 j = nI (encm M j) ∧ A.1 3 j = M.1 7 j ∧ A.1 4 j = M.1 6 j ∧ kE8 (kdS M j) (A.1 5 j) ∧ (pm M j ≤ 30 ∧ M.1 5 j = nI (pm M j) - 1) ∧ (M.1 8 j = 0 ∨ M.1 8 j = 1) ∧ ∃ h, h < 100000 ∧ M.1 6 j = nI h
def LTz (M A : kSt) : Prop := ∀ j, M.2 0 1 ≤ j → j < 30 → A.1 3 j = 0 ∧ A.1 5 j = 0
def LTb (M A : kSt) : Prop := ∀ j, j < 6 → A.1 6 j = M.1 3 j ∧ A.1 6 (8 + j) = M.1 4 j ∧ (M.1 4 j = 0 ∨ M.1 4 j = 1)
def LTs (M A : kSt) : Prop := ∀ j, j < M.2 0 2 → A.1 7 j = nI (encs M j) ∧ A.1 8 j = M.1 11 j ∧ (∃ v, v < 128 ∧ M.1 10 j = nI v) ∧ (M.1 12 j = 0 ∨ M.1 12 j = 1)
def LTt (M A : kSt) : Prop := ∀ j, j < M.2 0 3 → A.1 9 j = nI (enct M j) ∧ A.1 10 j = M.1 13 j ∧ (∃ v, v < 128 ∧ M.1 20 j = nI v) ∧ ∃ q, q < 3 ∧ M.1 14 j = nI q
def LT (M A : kSt) : Prop := LTg M A ∧ LTn M ∧ LTu M A ∧ LTm M A ∧ LTz M A ∧ LTb M A ∧ LTs M A ∧ LTt M A
section LTC
variable {M M' A A' : kSt}
theorem LTg.c (h : LTg M A) (r0 : M'.1 0 0 = M.1 0 0) (n : M'.2 0 = M.2 0) (a : ∀ j, j < 5 → A'.1 11 j = A.1 11 j) : LTg M' A' := by
  unfold LTg
  rw [r0, n, a 0 (by decide), a 1 (by decide), a 2 (by decide), a 3 (by decide), a 4 (by decide)]
  exact h
theorem LTn.c (h : LTn M) (n : M'.2 0 = M.2 0) : LTn M' := by unfold LTn; rw [n]; exact h
theorem LTu.c (h : LTu M A) (n : M'.2 0 0 = M.2 0 0) (r1 : M'.1 1 = M.1 1) (r2 : M'.1 2 = M.1 2) (a : A'.1 1 = A.1 1) : LTu M' A' := by
  unfold LTu; rw [n, r1, r2, a]; exact h
theorem LTm.c (h : LTm M A) (n : M'.2 0 1 = M.2 0 1) (n1 : M'.2 1 = M.2 1) (n2 : M'.2 2 = M.2 2) (r5 : M'.1 5 = M.1 5) (r6 : M'.1 6 = M.1 6) (r7 : M'.1 7 = M.1 7) (r8 : M'.1 8 = M.1 8) (k : kdS M' = kdS M) (a2 : A'.1 2 = A.1 2) (a3 : A'.1 3 = A.1 3) (a4 : A'.1 4 = A.1 4) (a5 : A'.1 5 = A.1 5) : LTm M' A' := by
  unfold LTm encm pm; rw [n, n1, n2, r5, r6, r7, r8, k, a2, a3, a4, a5]; exact h
theorem LTz.c (h : LTz M A) (n : M.2 0 1 ≤ M'.2 0 1) (a3 : A'.1 3 = A.1 3) (a5 : A'.1 5 = A.1 5) : LTz M' A' := by
  unfold LTz; rw [a3, a5]; exact fun j h1 h2 => h j (Nat.le_trans n h1) h2
theorem LTb.c (h : LTb M A) (r3 : M'.1 3 = M.1 3) (r4 : M'.1 4 = M.1 4) (a : A'.1 6 = A.1 6) : LTb M' A' := by
  unfold LTb; rw [r3, r4, a]; exact h
theorem LTs.c (h : LTs M A) (n : M'.2 0 2 = M.2 0 2) (n3 : M'.2 3 = M.2 3) (r10 : M'.1 10 = M.1 10) (r11 : M'.1 11 = M.1 11) (r12 : M'.1 12 = M.1 12) (a7 : A'.1 7 = A.1 7) (a8 : A'.1 8 = A.1 8) : LTs M' A' := by
  unfold LTs encs; rw [n, n3, r10, r11, r12, a7, a8]; exact h
theorem LTt.c (h : LTt M A) (n : M'.2 0 3 = M.2 0 3) (n4 : M'.2 4 = M.2 4) (n5 : M'.2 5 = M.2 5) (r13 : M'.1 13 = M.1 13) (r14 : M'.1 14 = M.1 14) (r20 : M'.1 20 = M.1 20) (a9 : A'.1 9 = A.1 9) (a10 : A'.1 10 = A.1 10) : LTt M' A' := by
  unfold LTt enct; rw [n, n4, n5, r13, r14, r20, a9, a10]; exact h
end LTC
section LTX
variable {M A : kSt}
theorem LT.c (h : LT M A) : M.2 0 0 ≤ 8 ∧ M.2 0 1 ≤ 30 ∧ M.2 0 2 ≤ 30 ∧ M.2 0 3 ≤ 30 := h.2.1
theorem LT.g0 (h : LT M A) : A.1 11 0 = M.1 0 0 := h.1.1
theorem LT.g1 (h : LT M A) : A.1 11 1 = nI (M.2 0 0) := h.1.2.1
theorem LT.g2 (h : LT M A) : A.1 11 2 = nI (M.2 0 1) := h.1.2.2.1
theorem LT.g3 (h : LT M A) : A.1 11 3 = nI (M.2 0 2) := h.1.2.2.2.1
theorem LT.g4 (h : LT M A) : A.1 11 4 = nI (M.2 0 3) := h.1.2.2.2.2
theorem LT.u (h : LT M A) {j : Nat} (hj : j < M.2 0 0) : A.1 1 j = M.1 1 j := (h.2.2.1 j hj).1
theorem LT.e (h : LT M A) {j : Nat} (hj : j < M.2 0 0) : A.1 1 (8 + j) = M.1 2 j := (h.2.2.1 j hj).2.1
theorem LT.m (h : LT M A) {j : Nat} (hj : j < M.2 0 1) : A.1 2 j = nI (encm M j) := (h.2.2.2.1 j hj).1
theorem LT.v (h : LT M A) {j : Nat} (hj : j < M.2 0 1) : A.1 3 j = M.1 7 j := (h.2.2.2.1 j hj).2.1
theorem LT.h (h : LT M A) {j : Nat} (hj : j < M.2 0 1) : A.1 4 j = M.1 6 j := (h.2.2.2.1 j hj).2.2.1
theorem LT.k (h : LT M A) {j : Nat} (hj : j < M.2 0 1) : kE8 (kdS M j) (A.1 5 j) := (h.2.2.2.1 j hj).2.2.2.1
theorem LT.b (h : LT M A) {j : Nat} (hj : j < 6) : A.1 6 j = M.1 3 j := (h.2.2.2.2.2.1 j hj).1
theorem LT.o (h : LT M A) {j : Nat} (hj : j < 6) : A.1 6 (8 + j) = M.1 4 j := (h.2.2.2.2.2.1 j hj).2.1
theorem LT.s (h : LT M A) {j : Nat} (hj : j < M.2 0 2) : A.1 7 j = nI (encs M j) := (h.2.2.2.2.2.2.1 j hj).1
theorem LT.a (h : LT M A) {j : Nat} (hj : j < M.2 0 2) : A.1 8 j = M.1 11 j := (h.2.2.2.2.2.2.1 j hj).2.1
theorem LT.t (h : LT M A) {j : Nat} (hj : j < M.2 0 3) : A.1 9 j = nI (enct M j) := (h.2.2.2.2.2.2.2 j hj).1
theorem LT.w (h : LT M A) {j : Nat} (hj : j < M.2 0 3) : A.1 10 j = M.1 13 j := (h.2.2.2.2.2.2.2 j hj).2.1
theorem cl01 {x : Int32} (h : x = 0 ∨ x = 1) : x.toNatClampNeg ≤ 1 ∧ x = nI x.toNatClampNeg ∧ (x.toNatClampNeg = 0 ↔ x = 0) := by
  rcases h with rfl | rfl <;> decide
/-- what the numbers of a message, a spend, a task tell -/
theorem LT.mm (h : LT M A) (hN : okN M) {j : Nat} (hj : j < M.2 0 1) : encm M j < 16384 ∧ encm M j % 16 = M.2 1 j ∧ encm M j / 16 % 8 = M.2 2 j ∧ encm M j / 128 % 64 = pm M j ∧ nI (encm M j / 8192) = M.1 8 j ∧ (encm M j < 8192 ↔ M.1 8 j = 0) := by
  obtain ⟨-, -, -, -, ⟨p1, -⟩, q, -⟩ := h.2.2.2.1 j hj
  obtain ⟨a1, a2⟩ := hN.2.2.2.2.1 j hj
  have c := h.c.1
  obtain ⟨q1, q2, q3⟩ := cl01 q
  unfold encm
  generalize (M.1 8 j).toNatClampNeg = z at q1 q2 q3 ⊢
  refine ⟨by omega, by omega, by omega, by omega, ?_, ?_⟩
  · rw [show (M.2 1 j + 16 * M.2 2 j + 128 * pm M j + 8192 * z) / 8192 = z by omega]; exact q2.symm
  · rw [← q3]; omega
theorem LT.ss (h : LT M A) (hN : okN M) {j : Nat} (hj : j < M.2 0 2) : encs M j < 131072 ∧ encs M j % 64 = M.2 3 j ∧ nI (encs M j / 65536) = M.1 12 j ∧ (encs M j < 65536 ↔ M.1 12 j = 0) ∧ nI (encs M j / 64 % 1024) = M.1 10 j ∧ (M.1 12 j = 0 → nI (encs M j / 64) = M.1 10 j) := by
  obtain ⟨-, -, ⟨v, v1, v2⟩, q⟩ := h.2.2.2.2.2.2.1 j hj
  have a1 := hN.2.2.2.2.2.1 j hj
  have c := h.c.2.1
  obtain ⟨q1, q2, q3⟩ := cl01 q
  unfold encs
  have v3 : (M.1 10 j).toNatClampNeg = v := by rw [v2]; exact nI_clamp (by omega)
  rw [v3, v2]
  generalize (M.1 12 j).toNatClampNeg = z at q1 q2 q3 ⊢
  refine ⟨by omega, by omega, ?_, ?_, ?_, fun e => ?_⟩
  · rw [show (M.2 3 j + 64 * v + 65536 * z) / 65536 = z by omega]; exact q2.symm
  · rw [← q3]; omega
  · rw [show (M.2 3 j + 64 * v + 65536 * z) / 64 % 1024 = v by omega]
  · have := q3.mpr e
    rw [show (M.2 3 j + 64 * v + 65536 * z) / 64 = v by omega]
theorem LT.tt (h : LT M A) (hN : okN M) {j : Nat} (hj : j < M.2 0 3) : enct M j < 524288 ∧ enct M j % 64 = M.2 4 j ∧ nI (enct M j / 64 % 128) = M.1 20 j ∧ enct M j / 8192 % 16 = M.2 5 j ∧ nI (enct M j / 131072) = M.1 14 j ∧ (enct M j / 131072 = 0 ↔ M.1 14 j = 0) ∧ (enct M j < 131072 ↔ M.1 14 j = 0) := by
  obtain ⟨-, -, ⟨v, v1, v2⟩, q, q1, q2⟩ := h.2.2.2.2.2.2.2 j hj
  obtain ⟨a1, a2⟩ := hN.2.2.2.2.2.2 j hj
  have c := h.c
  unfold enct
  have v3 : (M.1 20 j).toNatClampNeg = v := by rw [v2]; exact nI_clamp (by omega)
  have q3 : (M.1 14 j).toNatClampNeg = q := by rw [q2]; exact nI_clamp (by omega)
  rw [v3, q3, v2, q2]
  have q4 : nI q = 0 ↔ q = 0 := nI_eq (a := q) (b := 0) (by omega) (by decide)
  have e : (M.2 4 j + 64 * v + 8192 * M.2 5 j + 131072 * q) / 131072 = q := by omega
  refine ⟨by omega, by omega, ?_, by omega, by rw [e], by rw [e]; exact q4.symm, by rw [q4]; omega⟩
  rw [show (M.2 4 j + 64 * v + 8192 * M.2 5 j + 131072 * q) / 64 % 128 = v by omega]
/-- a mark, as the law's digits say it -/
theorem LT.d (h : LT M A) {j : Nat} (hj : j < M.2 0 1) : ∃ d, d8 d ∧ A.1 5 j = nI (k8 d) ∧ ∀ u, u < 8 → (d u = 1 ↔ kdS M j u = 0) ∧ (d u = 2 ↔ kdS M j u = 1) ∧ (kdS M j u = -1 ↔ d u ≠ 1 ∧ d u ≠ 2) := by
  obtain ⟨d, h1, h2, h3⟩ := h.k hj
  refine ⟨d, h1, h2, fun u hu => ?_⟩
  rcases h3 u hu with ⟨a, b⟩ | ⟨a, b⟩ | ⟨a, b⟩
  · rw [a, b]; decide
  · rw [a, b]; decide
  · rw [a]; exact ⟨⟨fun z => absurd z b.1, fun z => absurd z (by decide)⟩, ⟨fun z => absurd z b.2, fun z => absurd z (by decide)⟩, ⟨fun _ => b, fun _ => rfl⟩⟩
end LTX
