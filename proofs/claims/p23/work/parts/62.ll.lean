/-! THE CALLS in the law's words: their codes, and what stands behind each before it is settled -/
theorem inB_d {u n : Nat} (h : u < 2 ^ 31) : inB (nI u) n = decide (u < n) := by
  rw [inB, nI_toInt h]
  by_cases e : u < n
  · rw [decide_eq_true e, decide_eq_true (p := (0 : Int) ≤ u) (by omega), decide_eq_true (p := (u : Int) < n) (by omega)]; rfl
  · rw [decide_eq_false e, decide_eq_false (p := (u : Int) < n) (by omega), Bool.and_false]
theorem m1_toInt {p : Nat} (h : p < 2 ^ 30) : (nI p - 1).toInt = (p : Int) - 1 := by
  rw [show (1 : Int32) = nI 1 from rfl, pk_sub_toInt h (by decide)]; rfl
theorem m1_inB {p n : Nat} (h : p < 2 ^ 30) : inB (nI p - 1) n = decide (1 ≤ p ∧ p ≤ n) := by
  rw [inB, m1_toInt h]
  by_cases e : 1 ≤ p ∧ p ≤ n
  · rw [decide_eq_true e, decide_eq_true (by omega), decide_eq_true (by omega)]; rfl
  · rw [decide_eq_false e]
    by_cases e2 : 1 ≤ p
    · rw [decide_eq_false (p := (p : Int) - 1 < n) (by omega), Bool.and_false]
    · rw [decide_eq_false (p := (0 : Int) ≤ p - 1) (by omega), Bool.false_and]
theorem m1_m1 {p : Nat} (h : p < 2 ^ 30) : nI p - 1 = -1 ↔ p = 0 := by
  rw [← Int32.toInt_inj, m1_toInt h, show (-1 : Int32).toInt = -1 from rfl]
  omega
theorem m1_ge {p n : Nat} (h : p < 2 ^ 30) (hn : n < 2 ^ 31) : nI n ≤ nI p - 1 ↔ n + 1 ≤ p := by
  rw [Int32.le_iff_toInt_le, m1_toInt h, nI_toInt hn]
  omega
theorem m1_at {p : Nat} (h : 1 ≤ p) : nI p - 1 = nI (p - 1) := pk_sub h
theorem cl_m1 {p : Nat} (h1 : 1 ≤ p) (h : p < 2 ^ 31) : cl (nI p - 1) = p - 1 := by rw [m1_at h1]; exact nI_clamp (by omega)
/-- a new message: who and where is there; it can be told -/
def arP (S : kSt) (u ch pp : Nat) : Bool := decide (u < S.2 0 0) && (decide (ch < 6) && decide (pp ≤ S.2 0 1))
def caP (S : kSt) (u ch pp : Nat) : Bool := arP S u ch pp && (!gone S u && (decide (pp = 0) || (decide (S.2 2 (pp - 1) = ch) && decide (S.1 8 (pp - 1) = 0))))
theorem cPost_v {S : kSt} {u ch pp : Nat} (hu : u < 2 ^ 31) (hc : ch < 2 ^ 31) (hp : pp < 2 ^ 30) (h30 : S.2 0 1 < 30) : cPost S (nI u) (nI ch) (nI pp - 1) = if arP S u ch pp = false then 1 else if caP S u ch pp = false then 2 else 0 := by
  have e1 : (inB (nI u) (S.2 0 0) && (inB (nI ch) 6 && (decide (nI pp - 1 = -1) || inB (nI pp - 1) (S.2 0 1)))) = arP S u ch pp := by
    rw [inB_d hu, inB_d hc, m1_inB hp, arP]
    refine congrArg (fun z => decide (u < S.2 0 0) && (decide (ch < 6) && z)) ?_
    by_cases e : pp = 0
    · rw [decide_eq_true ((m1_m1 hp).mpr e), decide_eq_true (p := pp ≤ S.2 0 1) (by omega)]; rfl
    · rw [decide_eq_false (fun z => e ((m1_m1 hp).mp z)), Bool.false_or]
      by_cases e2 : pp ≤ S.2 0 1
      · rw [decide_eq_true e2, decide_eq_true (by omega)]
      · rw [decide_eq_false e2, decide_eq_false (by omega)]
  unfold cPost
  rw [e1]
  cases ha : arP S u ch pp with
  | false => rfl
  | true =>
    have e2 : (!gone S (cl (nI u)) && (decide (S.2 0 1 < 80) && (decide (nI pp - 1 = -1) || (decide (S.2 2 (cl (nI pp - 1)) = cl (nI ch)) && decide (S.1 8 (cl (nI pp - 1)) = 0))))) = caP S u ch pp := by
      rw [show cl (nI u) = u from nI_clamp hu, show cl (nI ch) = ch from nI_clamp hc, decide_eq_true (p := S.2 0 1 < 80) (by omega), Bool.true_and, caP, ha, Bool.true_and]
      by_cases e : pp = 0
      · rw [decide_eq_true ((m1_m1 hp).mpr e), decide_eq_true e, Bool.true_or, Bool.true_or]
      · rw [decide_eq_false (fun z => e ((m1_m1 hp).mp z)), decide_eq_false e, Bool.false_or, Bool.false_or, cl_m1 (by omega) (by omega)]
    rw [e2]
/-- a user and a message that are there; the user is not gone, the message not archived -/
def arM (S : kSt) (u a : Nat) : Bool := decide (u < S.2 0 0) && decide (a < S.2 0 1)
def caM (S : kSt) (u a : Nat) : Bool := arM S u a && (!gone S u && decide (S.1 8 a = 0))
def caE (S : kSt) (u a : Nat) : Bool := caM S u a && decide (S.2 1 a = u)
theorem cEdit_v {S : kSt} {u a : Nat} (hu : u < 2 ^ 31) (ha : a < 2 ^ 31) : cEdit S (nI u) (nI a) = if arM S u a = false then 1 else if caE S u a = false then 2 else 0 := by
  unfold cEdit
  rw [inB_d hu, inB_d ha, show cl (nI u) = u from nI_clamp hu, show cl (nI a) = a from nI_clamp ha]
  unfold caE caM
  cases h : arM S u a with
  | false => rw [show (decide (u < S.2 0 0) && decide (a < S.2 0 1)) = false from h]; rfl
  | true =>
    rw [show (decide (u < S.2 0 0) && decide (a < S.2 0 1)) = true from h]
    cases gone S u <;> cases decide (S.2 1 a = u) <;> cases decide (S.1 8 a = 0) <;> rfl
/-- a mark: kk is what is told, one more -/
def caK (S : kSt) (u a kk : Nat) : Bool := caM S u a && (decide (kk < 3) && (decide (kk ≠ 0) || decide (kdS S a u ≠ -1)))
theorem m1_inR {kk : Nat} (h : kk < 4) : inR (nI kk - 1) (-1) 1 = decide (kk < 3) ∧ (nI kk - 1 ≠ -1 ↔ kk ≠ 0) := by
  match kk, h with
  | 0, _ => decide
  | 1, _ => decide
  | 2, _ => decide
  | 3, _ => decide
theorem cMark_v {S : kSt} {u a kk : Nat} (hu : u < 2 ^ 31) (ha : a < 2 ^ 31) (hk : kk < 4) : cMark S (kdS S) (nI u) (nI a) (nI kk - 1) = if arM S u a = false then 1 else if kk < 3 then (if caK S u a kk = false then 3 else 0) else 2 := by
  obtain ⟨r1, r2⟩ := m1_inR hk
  unfold cMark
  rw [inB_d hu, inB_d ha, show cl (nI u) = u from nI_clamp hu, show cl (nI a) = a from nI_clamp ha, r1]
  unfold caK caM
  cases h : arM S u a with
  | false => rw [show (decide (u < S.2 0 0) && decide (a < S.2 0 1)) = false from h]; rfl
  | true =>
    rw [show (decide (u < S.2 0 0) && decide (a < S.2 0 1)) = true from h]
    by_cases h3 : kk < 3
    · rw [decide_eq_true h3, if_pos h3]
      have e : decide (nI kk - 1 ≠ -1) = decide (kk ≠ 0) := by
        by_cases z : kk ≠ 0
        · rw [decide_eq_true z, decide_eq_true (r2.mpr z)]
        · rw [decide_eq_false z, decide_eq_false (fun y => z (r2.mp y))]
      rw [e]
      cases gone S u <;> cases decide (S.1 8 a = 0) <;> cases decide (kk ≠ 0) <;> cases decide (kdS S a u ≠ -1) <;> rfl
    · rw [decide_eq_false h3, if_neg h3]; rfl
theorem inR_n {x a b : Nat} (hx : x < 2 ^ 31) (ha : a < 2 ^ 31) (hb : b < 2 ^ 31) : inR (nI x) (nI a) (nI b) = (decide (a ≤ x) && decide (x ≤ b)) := by
  unfold inR
  have e1 : decide (nI a ≤ nI x) = decide (a ≤ x) := by
    by_cases e : a ≤ x
    · rw [decide_eq_true e, decide_eq_true ((nI_leI ha hx).mpr e)]
    · rw [decide_eq_false e, decide_eq_false (fun z => e ((nI_leI ha hx).mp z))]
  have e2 : decide (nI x ≤ nI b) = decide (x ≤ b) := by
    by_cases e : x ≤ b
    · rw [decide_eq_true e, decide_eq_true ((nI_leI hx hb).mpr e)]
    · rw [decide_eq_false e, decide_eq_false (fun z => e ((nI_leI hx hb).mp z))]
  rw [e1, e2]
/-- a spend of x -/
def caS (S : kSt) (u a x : Nat) : Bool := caM S u a && ((decide (0 < x) && decide (x < 1000001)) && (appr S (kdS S a) (S.2 1 a) (S.2 0 0) (nI x) && decide (¬ S.1 3 (S.2 2 a) < nI x)))
theorem cSpend_v {S : kSt} {u a x : Nat} (hu : u < 2 ^ 31) (ha : a < 2 ^ 31) (hx : x < 2 ^ 31) (h60 : S.2 0 2 < 30) : cSpend S (kdS S) (nI u) (nI a) (nI x) = if arM S u a = false then 1 else if (decide (0 < x) && decide (x < 1000001)) = false then 2 else if caS S u a x = false then 3 else 0 := by
  have r : inR (nI x) 1 1000000 = (decide (0 < x) && decide (x < 1000001)) := by
    rw [show (1 : Int32) = nI 1 from rfl, show (1000000 : Int32) = nI 1000000 from rfl, inR_n hx (by decide) (by decide)]
    refine congr (congrArg _ ?_) ?_
    · by_cases e : 0 < x
      · rw [decide_eq_true e, decide_eq_true (show 1 ≤ x by omega)]
      · rw [decide_eq_false e, decide_eq_false (show ¬ 1 ≤ x by omega)]
    · by_cases e : x < 1000001
      · rw [decide_eq_true e, decide_eq_true (show x ≤ 1000000 by omega)]
      · rw [decide_eq_false e, decide_eq_false (show ¬ x ≤ 1000000 by omega)]
  unfold cSpend
  rw [inB_d hu, inB_d ha, show cl (nI u) = u from nI_clamp hu, show cl (nI a) = a from nI_clamp ha, r, decide_eq_true (p := S.2 0 2 < 60) (by omega)]
  unfold caS caM
  cases h : arM S u a with
  | false => rw [show (decide (u < S.2 0 0) && decide (a < S.2 0 1)) = false from h]; rfl
  | true =>
    rw [show (decide (u < S.2 0 0) && decide (a < S.2 0 1)) = true from h]
    cases (decide (0 < x) && decide (x < 1000001)) with
    | false => rfl
    | true => cases gone S u <;> cases decide (S.1 8 a = 0) <;> cases appr S (kdS S a) (S.2 1 a) (S.2 0 0) (nI x) <;> rfl
/-- a task for w -/
def arT (S : kSt) (u a w : Nat) : Bool := arM S u a && decide (w < S.2 0 0)
def caT (S : kSt) (u a w x : Nat) : Bool := caM S u a && (arT S u a w && decide (x < 10001))
theorem cTask_v {S : kSt} {u a w x : Nat} (hu : u < 2 ^ 31) (ha : a < 2 ^ 31) (hw : w < 2 ^ 31) (hx : x < 2 ^ 31) (h60 : S.2 0 3 < 30) : cTask S (nI u) (nI a) (nI w) (nI x) = if arT S u a w = false then 1 else if x < 10001 then (if caT S u a w x = false then 3 else 0) else 2 := by
  have r : inR (nI x) 0 10000 = decide (x < 10001) := by
    rw [show (0 : Int32) = nI 0 from rfl, show (10000 : Int32) = nI 10000 from rfl, inR_n hx (by decide) (by decide), decide_eq_true (Nat.zero_le x), Bool.true_and]
    by_cases e : x < 10001
    · rw [decide_eq_true e, decide_eq_true (show x ≤ 10000 by omega)]
    · rw [decide_eq_false e, decide_eq_false (show ¬ x ≤ 10000 by omega)]
  unfold cTask
  rw [inB_d hu, inB_d ha, inB_d hw, show cl (nI u) = u from nI_clamp hu, show cl (nI a) = a from nI_clamp ha, r, decide_eq_true (p := S.2 0 3 ≠ 60) (by omega)]
  have e : (decide (u < S.2 0 0) && (decide (a < S.2 0 1) && decide (w < S.2 0 0))) = arT S u a w := by rw [arT, arM, Bool.and_assoc]
  rw [e]
  unfold caT caM
  cases h : arT S u a w with
  | false => rfl
  | true =>
    have hm : arM S u a = true := by rw [arT, Bool.and_eq_true] at h; exact h.1
    rw [hm]
    by_cases h3 : x < 10001
    · rw [decide_eq_true h3, if_pos h3]
      cases gone S u <;> cases decide (S.1 8 a = 0) <;> rfl
    · rw [decide_eq_false h3, if_neg h3]; rfl
/-- a task done -/
def hsD (S : kSt) (u t : Nat) : Bool := decide (t < S.2 0 3) && decide (S.2 5 t = u)
def caD (S : kSt) (u t : Nat) : Bool := decide (u < S.2 0 0) && (hsD S u t && (!gone S u && decide (S.1 14 t = 0)))
theorem cDone_v {S : kSt} {u t : Nat} (hu : u < 2 ^ 31) (ht : t < 2 ^ 31) : cDone S (nI u) (nI t) = if (decide (u < S.2 0 0) && decide (t < S.2 0 3)) = false then 1 else if caD S u t = false then 2 else 0 := by
  unfold cDone
  rw [inB_d hu, inB_d ht, show cl (nI u) = u from nI_clamp hu, show cl (nI t) = t from nI_clamp ht]
  unfold caD hsD
  cases decide (u < S.2 0 0) <;> cases decide (t < S.2 0 3) <;> cases gone S u <;> cases decide (S.2 5 t = u) <;> cases decide (S.1 14 t = 0) <;> rfl
theorem cUser_v {S : kSt} {r : Nat} (hr : r < 4) (h : S.2 0 0 < 8) : cUser S (nI r) = 0 := by
  rw [cUser, show (0 : Int32) = nI 0 from rfl, show (3 : Int32) = nI 3 from rfl, inR_n (by omega) (by decide) (by decide), decide_eq_true (Nat.zero_le r), decide_eq_true (show r ≤ 3 by omega), if_neg (by decide), if_neg (by omega)]
theorem cRole_v {S : kSt} {u r : Nat} (hu : u < 2 ^ 31) (hr : r < 2 ^ 31) : cRole S (nI u) (nI r) = if u < S.2 0 0 then (if r < 4 then 0 else 2) else 1 := by
  rw [cRole, inB_d hu, show (3 : Int32) = nI 3 from rfl, show inR (nI r) 0 (nI 3) = inR (nI r) (nI 0) (nI 3) from rfl, inR_n hr (by decide) (by decide), decide_eq_true (Nat.zero_le r), Bool.true_and]
  by_cases e : u < S.2 0 0
  · rw [decide_eq_true e, if_pos e, if_neg (by decide)]
    by_cases e2 : r < 4
    · rw [decide_eq_true (show r ≤ 3 by omega), if_pos e2, if_neg (by decide)]
    · rw [decide_eq_false (show ¬ r ≤ 3 by omega), if_neg e2, if_pos rfl]
  · rw [decide_eq_false e, if_neg e, if_pos rfl]
/-- hours told: hh is one more -/
theorem cEnds_v {S : kSt} {u hh : Nat} (hu : u < 2 ^ 31) (hr : hh < 2 ^ 30) : cEnds S (nI u) (nI hh - 1) = if u < S.2 0 0 then (if hh < 10002 then 0 else 2) else 1 := by
  have r : inR (nI hh - 1) (-1) 10000 = decide (hh < 10002) := by
    unfold inR
    rw [decide_eq_true (p := (-1 : Int32) ≤ nI hh - 1) (by rw [Int32.le_iff_toInt_le, m1_toInt hr, show (-1 : Int32).toInt = -1 from rfl]; omega), Bool.true_and]
    by_cases e : hh < 10002
    · rw [decide_eq_true e, decide_eq_true (by rw [Int32.le_iff_toInt_le, m1_toInt hr, show (10000 : Int32).toInt = 10000 from rfl]; omega)]
    · rw [decide_eq_false e, decide_eq_false (by rw [Int32.le_iff_toInt_le, m1_toInt hr, show (10000 : Int32).toInt = 10000 from rfl]; omega)]
  rw [cEnds, inB_d hu, r]
  by_cases e : u < S.2 0 0
  · rw [decide_eq_true e, if_pos e, if_neg (by decide)]
    by_cases e2 : hh < 10002
    · rw [decide_eq_true e2, if_pos e2, if_neg (by decide)]
    · rw [decide_eq_false e2, if_neg e2, if_pos rfl]
  · rw [decide_eq_false e, if_neg e, if_pos rfl]
theorem cBudget_v {n : Nat} {S : kSt} (hB : BB n S) (hn : n ≤ 200) {c x : Nat} (hc : c < 2 ^ 31) (hx : x < 1020000) : cBudget S (nI c) (nI x) = if c < 6 then (if x < 1000001 then 0 else 2) else 1 := by
  have r : inR (nI x) 0 1000000 = decide (x < 1000001) := by
    rw [show (0 : Int32) = nI 0 from rfl, show (1000000 : Int32) = nI 1000000 from rfl, inR_n (by omega) (by decide) (by decide), decide_eq_true (Nat.zero_le x), Bool.true_and]
    by_cases e : x < 1000001
    · rw [decide_eq_true e, decide_eq_true (show x ≤ 1000000 by omega)]
    · rw [decide_eq_false e, decide_eq_false (show ¬ x ≤ 1000000 by omega)]
  rw [cBudget, inB_d hc, r, show cl (nI c) = c from nI_clamp hc]
  by_cases e : c < 6
  · rw [decide_eq_true e, if_pos e, if_neg (by decide)]
    obtain ⟨b, b1, b2⟩ := hB.2 c e
    by_cases e2 : x < 1000001
    · rw [decide_eq_true e2, if_pos e2, if_neg (by decide), b1, nI_add, if_neg]
      exact fun z => absurd ((nI_ltI (a := 1000000000) (b := b + x) (by decide) (by omega)).mp z) (by omega)
    · rw [decide_eq_false e2, if_neg e2, if_pos rfl]
  · rw [decide_eq_false e, if_neg e, if_pos rfl]
theorem cHold_v {c : Nat} (hc : c < 2 ^ 31) : cHold (nI c) = if c < 6 then 0 else 1 := by
  rw [cHold, inB_d hc]
  by_cases e : c < 6
  · rw [decide_eq_true e, if_pos e, if_neg (by decide)]
  · rw [decide_eq_false e, if_neg e, if_pos rfl]
theorem cArch_v {S : kSt} {c : Nat} (hc : c < 2 ^ 31) : cArch S (nI c) = if c < 6 then (if S.1 4 c = 0 then 0 else 2) else 1 := by
  rw [cArch, inB_d hc, show cl (nI c) = c from nI_clamp hc]
  by_cases e : c < 6
  · rw [decide_eq_true e, if_pos e, if_neg (by decide)]
    by_cases e2 : S.1 4 c = 0
    · rw [if_pos e2, if_neg (fun z => z e2)]
    · rw [if_neg e2, if_pos e2]
  · rw [decide_eq_false e, if_neg e, if_pos rfl]
theorem cPass_v {x : Nat} (h1 : 1 ≤ x) (h2 : x ≤ 1000) : cPass (nI x) = 0 ∧ inR (nI x) 1 1000 = true := by
  have r : inR (nI x) 1 1000 = true := by
    rw [show (1 : Int32) = nI 1 from rfl, show (1000 : Int32) = nI 1000 from rfl, inR_n (by omega) (by decide) (by decide), decide_eq_true h1, decide_eq_true h2]; rfl
  exact ⟨by rw [cPass, r, if_neg (by decide)], r⟩
