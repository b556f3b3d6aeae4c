/-! THE MEANING: what both sides' methods answer, in words of the registers; kd tells the marks of a message by users (-1 none) -/
def bI (b : Bool) : Int32 := if b then 1 else 0
theorem bI_0 {b : Bool} (h : bI b = 0) : b = false := by cases b; rfl; exact absurd h (by decide)
theorem bI_1 {b : Bool} (h : ¬ bI b = 0) : b = true := by cases b; exact absurd rfl h; rfl
theorem bI_t {b : Bool} (h : b = true) : (1 : Int32) = bI b := by rw [h]; rfl
theorem bI_f {b : Bool} (h : b = false) : (0 : Int32) = bI b := by rw [h]; rfl
theorem bI_nar {b : Bool} : narrow .boolean (.int (bI b)) = .int (bI b) := by cases b <;> rfl
theorem bI_01 {b : Bool} : bI b = 0 ∨ bI b = 1 := by cases b; exact Or.inl rfl; exact Or.inr rfl
def inB (x : Int32) (n : Nat) : Bool := decide (0 ≤ x.toInt) && decide (x.toInt < n)
theorem inB_of {x : Int32} {n : Nat} (h : inB x n = true) (hn : n < 2 ^ 31) : ∃ j : Nat, j < n ∧ x = nI j := by
  simp only [inB, Bool.and_eq_true, decide_eq_true_eq] at h
  exact vp_in_of (vp_in_iff.mpr h) hn
theorem inB_nI {j n : Nat} (h : j < n) (hn : n < 2 ^ 31) : inB (nI j) n = true := by
  simp only [inB, Bool.and_eq_true, decide_eq_true_eq]
  exact vp_in_iff.mp (vp_in_nI h hn)
def gone (S : kSt) (u : Nat) : Bool := decide (S.1 2 u ≠ -1) && decide (¬ S.1 0 0 < S.1 2 u)
def cnts (S : kSt) (kd : Nat → Int32) (u : Nat) : Bool := decide (kd u ≠ -1) && (!gone S u && decide (S.1 1 u ≠ 0))
def kdT (T : kSt) (a u : Nat) : Int32 := if T.1 22 (12 * a + u) = T.1 7 a then T.1 21 (12 * a + u) else -1
def kdS (S : kSt) (a u : Nat) : Int32 := S.1 (100 + a) u
def cntN (S : kSt) (kd : Nat → Int32) : Nat → Nat
  | 0 => 0
  | n + 1 => cntN S kd n + (if cnts S kd n then 1 else 0)
def bar (S : kSt) (kd : Nat → Int32) : Nat → Bool
  | 0 => false
  | n + 1 => bar S kd n || (cnts S kd n && decide (kd n = 1))
def isY (S : kSt) (kd : Nat → Int32) (a u : Nat) : Bool := cnts S kd u && (decide (kd u = 0) && (decide (¬ S.1 1 u < 2) && decide (u ≠ a)))
def yesN (S : kSt) (kd : Nat → Int32) (a : Nat) : Nat → Nat
  | 0 => 0
  | n + 1 => yesN S kd a n + (if isY S kd a n then 1 else 0)
def chfN (S : kSt) (kd : Nat → Int32) (a : Nat) : Nat → Nat
  | 0 => 0
  | n + 1 => chfN S kd a n + (if isY S kd a n && decide (S.1 1 n = 3) then 1 else 0)
def appr (S : kSt) (kd : Nat → Int32) (a n : Nat) (x : Int32) : Bool := !bar S kd n && (if 1000 < x then decide (1 < yesN S kd a n) && decide (0 < chfN S kd a n) else decide (0 < yesN S kd a n))
theorem cntN_le (S : kSt) (kd : Nat → Int32) : ∀ n, cntN S kd n ≤ n
  | 0 => Nat.le_refl _
  | n + 1 => by have := cntN_le S kd n; simp only [cntN]; split <;> omega
theorem yesN_le (S : kSt) (kd : Nat → Int32) (a : Nat) : ∀ n, yesN S kd a n ≤ n
  | 0 => Nat.le_refl _
  | n + 1 => by have := yesN_le S kd a n; simp only [yesN]; split <;> omega
theorem chfN_le (S : kSt) (kd : Nat → Int32) (a : Nat) : ∀ n, chfN S kd a n ≤ n
  | 0 => Nat.le_refl _
  | n + 1 => by have := chfN_le S kd a n; simp only [chfN]; split <;> omega
/-- from what is told of a message: one spend looked at -/
def stl1 (S : kSt) (kd : Nat → Nat → Int32) (s : Nat) : kSt :=
  if S.1 12 s = 0 ∧ ¬ (S.1 7 (S.2 3 s) = S.1 10 s ∧ appr S (kd (S.2 3 s)) (S.2 1 (S.2 3 s)) (S.2 0 0) (S.1 11 s) = true) then
    sI (sI S 12 s 1) 3 (S.2 2 (S.2 3 s)) (S.1 3 (S.2 2 (S.2 3 s)) + S.1 11 s)
  else S
def stl (S : kSt) (kd : Nat → Nat → Int32) : Nat → kSt
  | 0 => S
  | n + 1 => stl1 (stl S kd n) kd n
/-- what holds of a state of numbers, so that its things lie where they are looked for -/
def okN (S : kSt) : Prop := S.2 0 0 ≤ 12 ∧ S.2 0 1 ≤ 80 ∧ S.2 0 2 ≤ 60 ∧ S.2 0 3 ≤ 60 ∧ (∀ j, j < S.2 0 1 → S.2 1 j < S.2 0 0 ∧ S.2 2 j < 6) ∧ (∀ j, j < S.2 0 2 → S.2 3 j < S.2 0 1) ∧ ∀ j, j < S.2 0 3 → S.2 4 j < S.2 0 1 ∧ S.2 5 j < S.2 0 0
