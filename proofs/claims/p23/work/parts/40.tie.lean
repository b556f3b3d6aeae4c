/-! THE TIE of the two sides: the registers that both hold, and what holds of them behind each call -/
abbrev cmF (f : Nat) : Prop := f < 15 ∨ f = 20
abbrev cmN (f j : Nat) : Prop := (f = 0 ∧ j < 4) ∨ (0 < f ∧ f < 6)
def eqR (S T : kSt) : Prop := (∀ f j, cmF f → S.1 f j = T.1 f j) ∧ ∀ f j, cmN f j → S.2 f j = T.2 f j
section EQR
variable {S T : kSt}
theorem eqR.i (h : eqR S T) {f : Nat} (hf : cmF f := by decide) : S.1 f = T.1 f := funext fun j => h.1 f j hf
theorem eqR.n (h : eqR S T) {f : Nat} (hf : 0 < f ∧ f < 6 := by decide) : S.2 f = T.2 f := funext fun j => h.2 f j (Or.inr hf)
theorem eqR.c (h : eqR S T) {j : Nat} (hj : j < 4 := by decide) : S.2 0 j = T.2 0 j := h.2 0 j (Or.inl ⟨rfl, hj⟩)
theorem eqR.ii (h : eqR S T) {f i : Nat} {v : Int32} : eqR (sI S f i v) (sI T f i v) :=
  ⟨fun g j hg => by simp only [sI]; split; rfl; exact h.1 g j hg, h.2⟩
theorem eqR.is (h : eqR S T) {f i : Nat} {v : Int32} (hf : ¬ cmF f := by decide) : eqR (sI S f i v) T :=
  ⟨fun g j hg => by simp only [sI]; rw [if_neg (show ¬ (g = f ∧ j = i) from fun z => hf (z.1 ▸ hg))]; exact h.1 g j hg, h.2⟩
theorem eqR.it (h : eqR S T) {f i : Nat} {v : Int32} (hf : ¬ cmF f := by decide) : eqR S (sI T f i v) :=
  ⟨fun g j hg => by simp only [sI]; rw [if_neg (show ¬ (g = f ∧ j = i) from fun z => hf (z.1 ▸ hg))]; exact h.1 g j hg, h.2⟩
theorem eqR.nn (h : eqR S T) {f i v : Nat} : eqR (sN S f i v) (sN T f i v) :=
  ⟨h.1, fun g j hg => by simp only [sN]; split; rfl; exact h.2 g j hg⟩
theorem eqR.ns (h : eqR S T) {f i v : Nat} (hf : ¬ cmN f i := by decide) : eqR (sN S f i v) T :=
  ⟨h.1, fun g j hg => by simp only [sN]; rw [if_neg (show ¬ (g = f ∧ j = i) from fun z => hf (z.1 ▸ z.2 ▸ hg))]; exact h.2 g j hg⟩
theorem eqR.rs (h : eqR S T) {f a k : Nat} {v : Int32} (hf : ¬ cmF f := by decide) : eqR (sR S f a k v) T :=
  ⟨fun g j hg => by simp only [sR]; rw [if_neg (show ¬ (g = f ∧ (a ≤ j ∧ j < a + k)) from fun z => hf (z.1 ▸ hg))]; exact h.1 g j hg, h.2⟩
theorem eqR.rt (h : eqR S T) {f a k : Nat} {v : Int32} (hf : ¬ cmF f := by decide) : eqR S (sR T f a k v) :=
  ⟨fun g j hg => by simp only [sR]; rw [if_neg (show ¬ (g = f ∧ (a ≤ j ∧ j < a + k)) from fun z => hf (z.1 ▸ hg))]; exact h.1 g j hg, h.2⟩
theorem eqR.fs (h : eqR S T) {f : Nat} {u : Nat → Int32} (hf : ¬ cmF f := by decide) : eqR (sF S f u) T :=
  ⟨fun g j hg => by simp only [sF]; rw [if_neg (show ¬ g = f from fun z => hf (z ▸ hg))]; exact h.1 g j hg, h.2⟩
theorem okN_e (h : eqR S T) (hS : okN S) : okN T := by
  unfold okN at hS ⊢
  rw [← h.c (j := 0), ← h.c (j := 1), ← h.c (j := 2), ← h.c (j := 3), ← h.n (f := 1), ← h.n (f := 2), ← h.n (f := 3), ← h.n (f := 4), ← h.n (f := 5)]
  exact hS
theorem gone_e (h : eqR S T) (u : Nat) : gone S u = gone T u := gone_c (h.1 0 0 (by decide)) (fun j => h.1 2 j (by decide)) u
theorem appr_e (h : eqR S T) {kd kd' : Nat → Int32} {a n : Nat} {x : Int32} (hk : ∀ u, u < n → kd u = kd' u) : appr S kd a n x = appr T kd' a n x :=
  appr_c (h.1 0 0 (by decide)) (fun j => h.1 1 j (by decide)) (fun j => h.1 2 j (by decide)) hk
theorem cntN_e (h : eqR S T) {kd kd' : Nat → Int32} {n : Nat} (hk : ∀ u, u < n → kd u = kd' u) : cntN S kd n = cntN T kd' n :=
  cntN_c (h.1 0 0 (by decide)) (fun j => h.1 1 j (by decide)) (fun j => h.1 2 j (by decide)) hk
theorem stl1_e (h : eqR S T) {kd kd' : Nat → Nat → Int32} {n : Nat} (hk : ∀ u, u < S.2 0 0 → kd (S.2 3 n) u = kd' (S.2 3 n) u) : eqR (stl1 S kd n) (stl1 T kd' n) := by
  have ea : appr S (kd (S.2 3 n)) (S.2 1 (S.2 3 n)) (S.2 0 0) (S.1 11 n) = appr T (kd' (T.2 3 n)) (T.2 1 (T.2 3 n)) (T.2 0 0) (T.1 11 n) := by
    rw [← h.n (f := 3), ← h.n (f := 1), ← h.c (j := 0), ← h.i (f := 11)]
    exact appr_e h hk
  unfold stl1
  rw [ea, h.i (f := 12), h.i (f := 7), h.i (f := 10), h.i (f := 11), h.i (f := 3), h.n (f := 3), h.n (f := 2)]
  split
  · exact h.ii.ii
  · exact h
theorem stl_e (h : eqR S T) {kd kd' : Nat → Nat → Int32} (hS : okN S) (hk : ∀ m u, m < S.2 0 1 → u < 12 → kd m u = kd' m u) : ∀ n, n ≤ S.2 0 2 → eqR (stl S kd n) (stl T kd' n)
  | 0, _ => h
  | n + 1, hn => by
    obtain ⟨a1, -, -⟩ := stl_r S kd n
    have hu := hS.1
    exact stl1_e (stl_e h hS hk n (by omega)) (fun u hu2 => by
      rw [a1] at hu2 ⊢
      exact hk _ _ (hS.2.2.2.2.2.1 n hn) (by omega))
theorem drp_e (h : eqR S T) (m : Nat) : ∀ n, eqR (drp S m n) (drp T m n)
  | 0 => h
  | n + 1 => by
    have ih := drp_e h m n
    simp only [drp]
    rw [h.i (f := 14), h.n (f := 4)]
    split
    · exact ih.ii
    · exact ih
theorem noSp_e (h : eqR S T) (m : Nat) : ∀ n, noSp S m n = noSp T m n
  | 0 => rfl
  | n + 1 => by simp only [noSp, noSp_e h m n, h.n (f := 3), h.i (f := 12)]
theorem noTk_e (h : eqR S T) (m : Nat) : ∀ n, noTk S m n = noTk T m n
  | 0 => rfl
  | n + 1 => by simp only [noTk, noTk_e h m n, h.n (f := 4), h.i (f := 14)]
theorem noRp_e (h : eqR S T) (m : Nat) : ∀ n, noRp S m n = noRp T m n
  | 0 => rfl
  | n + 1 => by simp only [noRp, noRp_e h m n, h.i (f := 5), h.i (f := 8)]
theorem canA_e (h : eqR S T) (m : Nat) : canA S m = canA T m := by
  unfold canA
  rw [noSp_e h, noTk_e h, noRp_e h, h.c (j := 1), h.c (j := 2), h.c (j := 3), h.i (f := 8), h.i (f := 0), h.i (f := 6)]
end EQR
theorem arcS_e (c : Nat) : ∀ (n : Nat) (S T : kSt), eqR S T → eqR (arcS S c n) (arcS T c n) ∧ arcN S c n = arcN T c n
  | 0, _, _, h => ⟨h, rfl⟩
  | n + 1, S, T, h => by
    simp only [arcS, arcN]
    rw [canA_e h, h.n (f := 2)]
    obtain ⟨a1, a2⟩ := arcS_e c n _ _ (h.ii (f := 8) (i := n) (v := 1))
    obtain ⟨b1, b2⟩ := arcS_e c n _ _ h
    split
    · exact ⟨a1, by rw [a2]⟩
    · exact ⟨b1, b2⟩
section EQC
variable {S T : kSt}
theorem cUser_e (h : eqR S T) (x : Int32) : cUser S x = cUser T x := by unfold cUser; rw [h.c (j := 0)]
theorem cRole_e (h : eqR S T) (u x : Int32) : cRole S u x = cRole T u x := by unfold cRole; rw [h.c (j := 0)]
theorem cEnds_e (h : eqR S T) (u x : Int32) : cEnds S u x = cEnds T u x := by unfold cEnds; rw [h.c (j := 0)]
theorem cBudget_e (h : eqR S T) (c x : Int32) : cBudget S c x = cBudget T c x := by unfold cBudget; rw [h.i (f := 3)]
theorem cPost_e (h : eqR S T) (u c p : Int32) : cPost S u c p = cPost T u c p := by unfold cPost; rw [h.c (j := 0), h.c (j := 1), gone_e h, h.n (f := 2), h.i (f := 8)]
theorem cEdit_e (h : eqR S T) (u m : Int32) : cEdit S u m = cEdit T u m := by unfold cEdit; rw [h.c (j := 0), h.c (j := 1), gone_e h, h.n (f := 1), h.i (f := 8)]
theorem cl_in {x : Int32} {n : Nat} (h : inB x n = true) (hn : n < 2 ^ 31) : cl x < n := by
  obtain ⟨j, hj, rfl⟩ := inB_of h hn
  rw [cl_nI (by omega)]
  exact hj
theorem cMark_e (h : eqR S T) (hS : okN S) (hk : ∀ m u, m < S.2 0 1 → u < 12 → kdS S m u = kdT T m u) (u m x : Int32) : cMark S (kdS S) u m x = cMark T (kdT T) u m x := by
  have hu := hS.1
  have hm := hS.2.1
  unfold cMark
  rw [← h.c (j := 0), ← h.c (j := 1), ← gone_e h, ← h.i (f := 8)]
  by_cases hb : (inB u (S.2 0 0) && inB m (S.2 0 1)) = false
  · rw [if_pos hb, if_pos hb]
  · have hb := eq_true_of_ne_false hb
    rw [Bool.and_eq_true] at hb
    rw [hk (cl m) (cl u) (cl_in hb.2 (by omega)) (Nat.lt_of_lt_of_le (cl_in hb.1 (by omega)) hu)]
theorem cSpend_e (h : eqR S T) (hS : okN S) (hk : ∀ m u, m < S.2 0 1 → u < 12 → kdS S m u = kdT T m u) (u m x : Int32) : cSpend S (kdS S) u m x = cSpend T (kdT T) u m x := by
  have hu := hS.1
  have hm := hS.2.1
  unfold cSpend
  rw [← h.c (j := 0), ← h.c (j := 1), ← h.c (j := 2), ← gone_e h, ← h.i (f := 8), ← h.i (f := 3), ← h.n (f := 1), ← h.n (f := 2)]
  by_cases hb : (inB u (S.2 0 0) && inB m (S.2 0 1)) = false
  · rw [if_pos hb, if_pos hb]
  · have hb := eq_true_of_ne_false hb
    rw [Bool.and_eq_true] at hb
    rw [appr_e h (kd' := kdT T (cl m)) (fun v hv => hk (cl m) v (cl_in hb.2 (by omega)) (by omega))]
theorem cTask_e (h : eqR S T) (u m w x : Int32) : cTask S u m w x = cTask T u m w x := by unfold cTask; rw [h.c (j := 0), h.c (j := 1), h.c (j := 3), gone_e h, h.i (f := 8)]
theorem cDone_e (h : eqR S T) (u t : Int32) : cDone S u t = cDone T u t := by unfold cDone; rw [h.c (j := 0), h.c (j := 3), gone_e h, h.n (f := 5), h.i (f := 14)]
theorem cArch_e (h : eqR S T) (c : Int32) : cArch S c = cArch T c := by unfold cArch; rw [h.i (f := 4)]
theorem cMsgOf_e (h : eqR S T) (m w : Int32) : cMsgOf S m w = cMsgOf T m w := by unfold cMsgOf; rw [h.c (j := 1)]
theorem cAppr_e (h : eqR S T) (m w : Int32) : cAppr S m w = cAppr T m w := by unfold cAppr; rw [h.c (j := 1)]
theorem cSpOf_e (h : eqR S T) (m w : Int32) : cSpOf S m w = cSpOf T m w := by unfold cSpOf; rw [h.c (j := 2)]
theorem cNext_e (h : eqR S T) (u r : Int32) : cNext S u r = cNext T u r := by unfold cNext; rw [h.c (j := 0)]
theorem cTaskOf_e (h : eqR S T) (t : Int32) : cTaskOf S t = cTaskOf T t := by unfold cTaskOf; rw [h.c (j := 3)]
theorem cLabel_e (h : eqR S T) (t p : Int32) : cLabel S t p = cLabel T t p := by unfold cLabel; rw [h.c (j := 3)]
theorem lab_e (h : eqR S T) (t : Nat) : lab S t = lab T t := by unfold lab; rw [h.n (f := 4), h.n (f := 5), h.i (f := 20), h.i (f := 13)]
theorem rSpOf_e (h : eqR S T) (s w : Int32) : rSpOf S s w = rSpOf T s w := by unfold rSpOf; rw [h.i (f := 12), h.i (f := 10), h.i (f := 11), h.n (f := 3)]
theorem rMsgOf_e (h : eqR S T) {kd kd' : Nat → Nat → Int32} (m w : Int32) (hk : ∀ u, u < S.2 0 0 → kd (cl m) u = kd' (cl m) u) : rMsgOf S kd m w = rMsgOf T kd' m w := by
  unfold rMsgOf
  rw [cntN_e h hk, h.n (f := 1), h.n (f := 2), h.i (f := 5), h.i (f := 6), h.i (f := 7), h.i (f := 8), h.c (j := 0)]
end EQC
/-- what approves looks at, up to user n alone -/
theorem gone_l {S S' : kSt} {u : Nat} (h0 : S'.1 0 0 = S.1 0 0) (h2 : S'.1 2 u = S.1 2 u) : gone S' u = gone S u := by simp only [gone, h0, h2]
theorem cnts_l {S S' : kSt} {kd kd' : Nat → Int32} {u : Nat} (h0 : S'.1 0 0 = S.1 0 0) (h : kd' u = kd u ∧ S'.1 1 u = S.1 1 u ∧ S'.1 2 u = S.1 2 u) : cnts S' kd' u = cnts S kd u := by simp only [cnts, gone_l h0 h.2.2, h.1, h.2.1]
theorem isY_l {S S' : kSt} {kd kd' : Nat → Int32} {a u : Nat} (h0 : S'.1 0 0 = S.1 0 0) (h : kd' u = kd u ∧ S'.1 1 u = S.1 1 u ∧ S'.1 2 u = S.1 2 u) : isY S' kd' a u = isY S kd a u := by simp only [isY, cnts_l h0 h, h.1, h.2.1]
theorem bar_l {S S' : kSt} {kd kd' : Nat → Int32} (h0 : S'.1 0 0 = S.1 0 0) : ∀ n, (∀ u, u < n → kd' u = kd u ∧ S'.1 1 u = S.1 1 u ∧ S'.1 2 u = S.1 2 u) → bar S' kd' n = bar S kd n
  | 0, _ => rfl
  | n + 1, h => by simp only [bar, bar_l h0 n (fun u hu => h u (by omega)), cnts_l h0 (h n (by omega)), (h n (by omega)).1]
theorem yesN_l {S S' : kSt} {kd kd' : Nat → Int32} {a : Nat} (h0 : S'.1 0 0 = S.1 0 0) : ∀ n, (∀ u, u < n → kd' u = kd u ∧ S'.1 1 u = S.1 1 u ∧ S'.1 2 u = S.1 2 u) → yesN S' kd' a n = yesN S kd a n
  | 0, _ => rfl
  | n + 1, h => by simp only [yesN, yesN_l h0 n (fun u hu => h u (by omega)), isY_l h0 (h n (by omega))]
theorem chfN_l {S S' : kSt} {kd kd' : Nat → Int32} {a : Nat} (h0 : S'.1 0 0 = S.1 0 0) : ∀ n, (∀ u, u < n → kd' u = kd u ∧ S'.1 1 u = S.1 1 u ∧ S'.1 2 u = S.1 2 u) → chfN S' kd' a n = chfN S kd a n
  | 0, _ => rfl
  | n + 1, h => by simp only [chfN, chfN_l h0 n (fun u hu => h u (by omega)), isY_l h0 (h n (by omega)), (h n (by omega)).2.1]
theorem appr_l {S S' : kSt} {kd kd' : Nat → Int32} {a n : Nat} {x : Int32} (h0 : S'.1 0 0 = S.1 0 0) (h : ∀ u, u < n → kd' u = kd u ∧ S'.1 1 u = S.1 1 u ∧ S'.1 2 u = S.1 2 u) : appr S' kd' a n x = appr S kd a n x := by
  simp only [appr, bar_l h0 n h, yesN_l h0 n h, chfN_l h0 n h]
/-- a user without a mark does not matter -/
theorem appr_last {S : kSt} {kd : Nat → Int32} {a n : Nat} {x : Int32} (h : kd n = -1) : appr S kd a (n + 1) x = appr S kd a n x := by
  have hc := cnts_n (S := S) h
  simp [appr, bar, yesN, chfN, isY, hc]
def MkO (S : kSt) : Prop := ∀ m u, m < S.2 0 1 → u < 12 → (kdS S m u = -1 ∨ kdS S m u = 0 ∨ kdS S m u = 1) ∧ (S.2 0 0 ≤ u → kdS S m u = -1)
def Lgr (S : kSt) : Prop := okLg S ∧ (∀ i, i < S.2 0 4 → ∃ m, m < S.2 0 1 ∧ S.1 15 i = nI m) ∧ ∀ (b : Nat → Int32) (m u : Nat), m < S.2 0 1 → u < 12 → rpl S m b (S.2 0 4) u = kdS S m u
def V01 (S : kSt) : Prop := (∀ j, S.1 12 j = 0 ∨ S.1 12 j = 1) ∧ (∀ j, S.1 8 j = 0 ∨ S.1 8 j = 1) ∧ ∀ j, S.2 0 1 ≤ j → S.1 7 j = 0 ∧ S.1 8 j = 0
def Bds (n : Nat) (S : kSt) : Prop := (∃ h, h ≤ 1000 * n ∧ S.1 0 0 = nI h) ∧ (∀ j, ∃ v, v ≤ n ∧ S.1 7 j = nI v) ∧ (∀ j, ∃ v, v ≤ n ∧ S.1 20 j = nI v) ∧ ∀ j, ∃ v, v ≤ 1000 * n + 10000 ∧ S.1 13 j = nI v
def M22 (T : kSt) : Prop := ∀ m u, u < 12 → T.1 22 (12 * m + u) ≤ T.1 7 m
def Sett (S : kSt) : Prop := ∀ k, k < S.2 0 2 → S.1 12 k = 0 → due S k = true
def kdE (S T : kSt) : Prop := ∀ m u, m < S.2 0 1 → u < 12 → kdS S m u = kdT T m u
def PT (n : Nat) (S T : kSt) : Prop := eqR S T ∧ kdE S T ∧ okN S ∧ okL S ∧ MkO S ∧ Lgr S ∧ S.2 0 4 ≤ n ∧ V01 S ∧ Bds n S ∧ M22 T
def Tie (n : Nat) (S T : kSt) : Prop := PT n S T ∧ Sett S
theorem Bds.up {n k : Nat} {S : kSt} (h : Bds n S) (hk : n ≤ k) : Bds k S := by
  obtain ⟨⟨h0, a, b⟩, c, d, e⟩ := h
  refine ⟨⟨h0, by omega, b⟩, fun j => ?_, fun j => ?_, fun j => ?_⟩
  · obtain ⟨v, q, r⟩ := c j; exact ⟨v, by omega, r⟩
  · obtain ⟨v, q, r⟩ := d j; exact ⟨v, by omega, r⟩
  · obtain ⟨v, q, r⟩ := e j; exact ⟨v, by omega, r⟩
theorem PT.up {n k : Nat} {S T : kSt} (h : PT n S T) (hk : n ≤ k) : PT k S T :=
  ⟨h.1, h.2.1, h.2.2.1, h.2.2.2.1, h.2.2.2.2.1, h.2.2.2.2.2.1, Nat.le_trans h.2.2.2.2.2.2.1 hk, h.2.2.2.2.2.2.2.1, h.2.2.2.2.2.2.2.2.1.up hk, h.2.2.2.2.2.2.2.2.2⟩
theorem Tie.up {n k : Nat} {S T : kSt} (h : Tie n S T) (hk : n ≤ k) : Tie k S T := ⟨h.1.up hk, h.2⟩
theorem rpl_c {S S' : kSt} {m : Nat} {b : Nat → Int32} : ∀ n, (∀ i, i < n → S'.1 15 i = S.1 15 i ∧ S'.1 16 i = S.1 16 i ∧ S'.1 17 i = S.1 17 i) → rpl S' m b n = rpl S m b n
  | 0, _ => rfl
  | n + 1, h => by
    obtain ⟨a, c, d⟩ := h n (by omega)
    simp only [rpl, rpl_c n (fun i hi => h i (by omega)), a, c, d]
theorem rpl_none {S : kSt} {m : Nat} {b : Nat → Int32} {u : Nat} (hu : u < 12) : ∀ n, (∀ i, i < n → S.1 15 i ≠ nI m) → rpl S m b n u = -1
  | 0, _ => if_pos hu
  | n + 1, h => by
    simp only [rpl]
    rw [if_neg (h n (by omega))]
    exact rpl_none hu n (fun i hi => h i (by omega))
theorem kdT_c {T T' : kSt} (h7 : T'.1 7 = T.1 7) (h21 : T'.1 21 = T.1 21) (h22 : T'.1 22 = T.1 22) : kdT T' = kdT T := by
  funext m u
  simp only [kdT, h7, h21, h22]
theorem due_l {S S' : kSt} {k : Nat} (h3 : S'.2 3 k = S.2 3 k) (h7 : S'.1 7 (S.2 3 k) = S.1 7 (S.2 3 k)) (h10 : S'.1 10 k = S.1 10 k) (h11 : S'.1 11 k = S.1 11 k) (g1 : S'.2 1 (S.2 3 k) = S.2 1 (S.2 3 k)) (c0 : S'.2 0 0 = S.2 0 0) (h0 : S'.1 0 0 = S.1 0 0) (h : ∀ u, u < S.2 0 0 → kdS S' (S.2 3 k) u = kdS S (S.2 3 k) u ∧ S'.1 1 u = S.1 1 u ∧ S'.1 2 u = S.1 2 u) : due S' k = due S k := by
  simp only [due]
  rw [h3, h7, h10, h11, g1, c0, appr_l h0 h]
/-- the same numbers, marks and log -/
theorem PT.easy {n : Nat} {S T S' T' : kSt} (h : PT n S T) (h2 : S'.2 = S.2) (hk : kdS S' = kdS S) (h15 : S'.1 15 = S.1 15) (h16 : S'.1 16 = S.1 16) (h17 : S'.1 17 = S.1 17) (t7 : T'.1 7 = T.1 7) (t21 : T'.1 21 = T.1 21) (t22 : T'.1 22 = T.1 22) (he : eqR S' T') (hv : V01 S') {n' : Nat} (hn : n ≤ n') (hb : Bds n' S') : PT n' S' T' := by
  obtain ⟨-, b, c, d, e, ⟨f1, f2, f3⟩, g, -, -, k⟩ := h
  refine ⟨he, fun m u hm hu => ?_, okN_c h2 c, okL_c h2 d, fun m u hm hu => ?_, ⟨?_, fun i hi => ?_, fun b0 m u hm hu => ?_⟩, by rw [h2]; omega, hv, hb, fun m u hu => ?_⟩
  · rw [h2] at hm; rw [hk, kdT_c t7 t21 t22]; exact b m u hm hu
  · rw [h2] at hm; rw [hk, h2]; exact e m u hm hu
  · unfold okLg at f1 ⊢; rw [h2, h16, h17]; exact f1
  · rw [h2] at hi ⊢; rw [h15]; exact f2 i hi
  · rw [h2] at hm ⊢; rw [hk, rpl_c (S := S) (S' := S') _ (fun i _ => ⟨by rw [h15], by rw [h16], by rw [h17]⟩)]; exact f3 b0 m u hm hu
  · rw [t7, t22]; exact k m u hu
theorem sett_stl {S : kSt} : ∀ n, ∀ k, k < n → (stl S (kdS S) n).1 12 k = 0 → due S k = true
  | 0, k, hk, _ => absurd hk (Nat.not_lt_zero _)
  | n + 1, k, hk, h => by
    have ih := sett_stl (S := S) n k
    obtain ⟨a1, a2, a3⟩ := stl_r S (kdS S) n
    simp only [stl] at h
    unfold stl1 at h
    split at h
    · rename_i hc
      by_cases e : k = n
      · rw [e] at h
        rw [show (sI (sI (stl S (kdS S) n) 12 n 1) 3 _ _).1 12 n = 1 from by simp [sI]] at h
        exact absurd h (by decide)
      · refine ih (by omega) ?_
        rw [← h]
        simp [sI, e]
    · rename_i hc
      by_cases e : k = n
      · rw [e] at h ⊢
        have hx := Classical.not_not.mp (fun z => hc ⟨h, z⟩)
        rw [a1, a2 7 _ (by decide) (by decide), a2 10 _ (by decide) (by decide), a2 11 _ (by decide) (by decide), appr_c (S := S) (kd := kdS S (S.2 3 n)) (a2 0 0 (by decide) (by decide)) (fun j => a2 1 j (by decide) (by decide)) (fun j => a2 2 j (by decide) (by decide)) (fun _ _ => rfl)] at hx
        simp only [due, hx.1, hx.2, decide_true, Bool.and_self]
      · exact ih (by omega) h
theorem V01.stl {S : kSt} (h : V01 S) (kd : Nat → Nat → Int32) : ∀ n, V01 (Pilot.CMarkChatLaw_law_r5861_6244ef.stl S kd n)
  | 0 => h
  | n + 1 => by
    obtain ⟨a, b, c⟩ := V01.stl h kd n
    simp only [Pilot.CMarkChatLaw_law_r5861_6244ef.stl, stl1]
    split
    · refine ⟨fun j => ?_, fun j => ?_, fun j hj => ?_⟩
      · simp only [sI]
        by_cases e : j = n
        · simp [e]
        · simp [e, a j]
      · simp [sI, b j]
      · simp only [sI] at hj ⊢; simp [c j hj]
    · exact ⟨a, b, c⟩
theorem Bds.of {n : Nat} {S S' : kSt} (h : Bds n S) (h0 : S'.1 0 0 = S.1 0 0) (h7 : S'.1 7 = S.1 7) (h20 : S'.1 20 = S.1 20) (h13 : S'.1 13 = S.1 13) : Bds n S' := by
  unfold Bds at h ⊢
  rw [h0, h7, h20, h13]
  exact h
theorem stl_1 {S : kSt} {kd : Nat → Nat → Int32} {n f : Nat} (h : f ≠ 12 ∧ f ≠ 3) : (stl S kd n).1 f = S.1 f := funext fun j => (stl_r S kd n).2.1 f j h.1 h.2
/-- behind a change: spends that are no longer due go back -/
theorem PT.set {n : Nat} {S T : kSt} (h : PT n S T) : Tie n (stl S (kdS S) (S.2 0 2)) (stl T (kdT T) (T.2 0 2)) := by
  have hs : eqR (stl S (kdS S) (S.2 0 2)) (stl T (kdT T) (T.2 0 2)) := by
    rw [← h.1.c (j := 2)]
    exact stl_e h.1 h.2.2.1 h.2.1 _ (Nat.le_refl _)
  have hk := stl_kdS S (kdS S) (S.2 0 2)
  have h2 := (stl_r S (kdS S) (S.2 0 2)).1
  refine ⟨h.easy h2 hk (stl_1 (by decide)) (stl_1 (by decide)) (stl_1 (by decide)) (stl_1 (by decide)) (stl_1 (by decide)) (stl_1 (by decide)) hs (h.2.2.2.2.2.2.2.1.stl _ _) (Nat.le_refl _) (h.2.2.2.2.2.2.2.2.1.of (by rw [stl_1 (by decide)]) (stl_1 (by decide)) (stl_1 (by decide)) (stl_1 (by decide))), fun k hk2 h12 => ?_⟩
  rw [h2] at hk2
  refine (due_l (by rw [h2]) (by rw [stl_1 (by decide)]) (by rw [stl_1 (by decide)]) (by rw [stl_1 (by decide)]) (by rw [h2]) (by rw [h2]) (by rw [stl_1 (by decide)]) (fun u _ => ⟨by rw [hk], by rw [stl_1 (by decide)], by rw [stl_1 (by decide)]⟩)).trans (sett_stl _ k hk2 h12)
section TIE
variable {n : Nat} {S T S' T' : kSt}
theorem M22.of (h : M22 T) (h22 : T'.1 22 = T.1 22) (h7 : T'.1 7 = T.1 7) : M22 T' := by
  intro m u hu
  rw [h22, h7]
  exact h m u hu
theorem V01.of (h : V01 S) (h12 : S'.1 12 = S.1 12) (h8 : S'.1 8 = S.1 8) (h7 : S'.1 7 = S.1 7) (c1 : S.2 0 1 ≤ S'.2 0 1) : V01 S' := by
  unfold V01 at h ⊢
  rw [h12, h8, h7]
  exact ⟨h.1, h.2.1, fun j hj => h.2.2 j (by omega)⟩
theorem Lgr.of (h : Lgr S) (h15 : S'.1 15 = S.1 15) (h16 : S'.1 16 = S.1 16) (h17 : S'.1 17 = S.1 17) (c4 : S'.2 0 4 = S.2 0 4) (c1 : S'.2 0 1 = S.2 0 1) (hk : kdS S' = kdS S) : Lgr S' := by
  obtain ⟨f1, f2, f3⟩ := h
  refine ⟨?_, fun i hi => ?_, fun b0 m u hm hu => ?_⟩
  · unfold okLg at f1 ⊢; rw [c4, h16, h17]; exact f1
  · rw [c4] at hi; rw [h15, c1]; exact f2 i hi
  · rw [c1] at hm; rw [c4, hk, rpl_c (S := S) (S' := S') _ (fun i _ => ⟨by rw [h15], by rw [h16], by rw [h17]⟩)]; exact f3 b0 m u hm hu
theorem Sett.of (h : Sett S) (h2 : S'.2 = S.2) (hk : kdS S' = kdS S) (h0 : S'.1 0 = S.1 0) (h1 : S'.1 1 = S.1 1) (h02 : S'.1 2 = S.1 2) (h7 : S'.1 7 = S.1 7) (h10 : S'.1 10 = S.1 10) (h11 : S'.1 11 = S.1 11) (h12 : S'.1 12 = S.1 12) : Sett S' := by
  intro k hk2 h
  rw [h2] at hk2
  rw [h12] at h
  exact (due_l (by rw [h2]) (by rw [h7]) (by rw [h10]) (by rw [h11]) (by rw [h2]) (by rw [h2]) (by rw [h0]) (fun u _ => ⟨by rw [hk], by rw [h1], by rw [h02]⟩)).trans (‹Sett S› k hk2 h)
theorem PT.t24 (h : PT n S T) (v : Int32) : PT n S (sI T 24 0 v) := by
  refine ⟨h.1.it (by decide), ?_, h.2.2.1, h.2.2.2.1, h.2.2.2.2.1, h.2.2.2.2.2.1, h.2.2.2.2.2.2.1, h.2.2.2.2.2.2.2.1, h.2.2.2.2.2.2.2.2.1, h.2.2.2.2.2.2.2.2.2.of (sI_fn (by decide)) (sI_fn (by decide))⟩
  intro m u hm hu
  rw [kdT_c (T := T) (T' := sI T 24 0 v) (sI_fn (by decide)) (sI_fn (by decide)) (sI_fn (by decide))]
  exact h.2.1 m u hm hu
theorem Tie.t24 (h : Tie n S T) (v : Int32) : Tie n S (sI T 24 0 v) := ⟨h.1.t24 v, h.2⟩
theorem kdT_24 {v : Int32} : kdT (sI T 24 0 v) = kdT T := kdT_c (sI_fn (by decide)) (sI_fn (by decide)) (sI_fn (by decide))
theorem PT.one (h : PT n S T) {f i : Nat} {v : Int32} (hf : f < 15 ∧ f ≠ 0 ∧ f ≠ 7 ∧ f ≠ 8 ∧ f ≠ 12 ∧ f ≠ 13) : PT n (sI S f i v) (sI T f i v) := by
  obtain ⟨a, a0, a7, a8, a12, a13⟩ := hf
  refine h.easy (S' := sI S f i v) (T' := sI T f i v) rfl (kdS_sI (by omega)) (sI_fn (by omega)) (sI_fn (by omega)) (sI_fn (by omega)) (sI_fn (by omega)) (sI_fn (by omega)) (sI_fn (by omega)) h.1.ii (h.2.2.2.2.2.2.2.1.of (sI_fn (by omega)) (sI_fn (by omega)) (sI_fn (by omega)) (Nat.le_refl _)) (Nat.le_refl _) (h.2.2.2.2.2.2.2.2.1.of ?_ (sI_fn (by omega)) (sI_fn (by omega)) (sI_fn (by omega)))
  rw [sI_fn (by omega)]
theorem Tie.one (h : Tie n S T) {f i : Nat} {v : Int32} (hf : f < 15 ∧ f ≠ 0 ∧ f ≠ 7 ∧ f ≠ 8 ∧ f ≠ 12 ∧ f ≠ 13) (hg : f ≠ 1 ∧ f ≠ 2 ∧ f ≠ 10 ∧ f ≠ 11) : Tie n (sI S f i v) (sI T f i v) := by
  have h1 := h.1.one (i := i) (v := v) hf
  obtain ⟨a, a0, a7, a8, a12, a13⟩ := hf
  obtain ⟨g1, g2, g10, g11⟩ := hg
  exact ⟨h1, h.2.of rfl (kdS_sI (by omega)) (sI_fn (by omega)) (sI_fn (by omega)) (sI_fn (by omega)) (sI_fn (by omega)) (sI_fn (by omega)) (sI_fn (by omega)) (sI_fn (by omega))⟩
theorem stl_24 {kd : Nat → Nat → Int32} {k : Nat} : (stl T kd k).1 24 0 = T.1 24 0 := (stl_r T kd k).2.1 24 0 (by decide) (by decide)
/-! role, ends, budget, done, hold -/
theorem t_role (h : Tie n S T) (u x : Int32) : Tie (n + 1) (oRole S (kdS S) u x) (oRole (sI T 24 0 0) (kdT T) u x) ∧ (oRole (sI T 24 0 0) (kdT T) u x).1 24 0 = 0 ∧ S.1 1 (cl u) = T.1 1 (cl u) := by
  have h1 := ((h.1.t24 0).one (f := 1) (i := cl u) (v := x) (by decide)).set
  rw [kdS_sI (by decide), kdT_c (T := T) (T' := sI (sI T 24 0 0) 1 (cl u) x) ((sI_fn (by decide)).trans (sI_fn (by decide))) ((sI_fn (by decide)).trans (sI_fn (by decide))) ((sI_fn (by decide)).trans (sI_fn (by decide)))] at h1
  exact ⟨h1.up (Nat.le_succ n), stl_24.trans ((sI_f (by decide)).trans sI_s), by rw [h.1.1.i (f := 1)]⟩
theorem vEnds_e (h : eqR S T) (x : Int32) : vEnds S x = vEnds T x := by unfold vEnds; rw [h.i (f := 0)]
theorem t_ends (h : Tie n S T) (u x : Int32) : Tie (n + 1) (oEnds S (kdS S) u x) (oEnds (sI T 24 0 0) (kdT T) u x) ∧ (oEnds (sI T 24 0 0) (kdT T) u x).1 24 0 = 0 ∧ vEnds S x = vEnds T x := by
  have h1 := ((h.1.t24 0).one (f := 2) (i := cl u) (v := vEnds S x) (by decide)).set
  rw [kdS_sI (by decide), kdT_c (T := T) (T' := sI (sI T 24 0 0) 2 (cl u) (vEnds S x)) ((sI_fn (by decide)).trans (sI_fn (by decide))) ((sI_fn (by decide)).trans (sI_fn (by decide))) ((sI_fn (by decide)).trans (sI_fn (by decide)))] at h1
  refine ⟨?_, stl_24.trans ((sI_f (by decide)).trans sI_s), vEnds_e h.1.1 x⟩
  have e : vEnds (sI T 24 0 0) x = vEnds S x := (vEnds_e (h.1.1.it (v := 0) (by decide)) x).symm
  unfold oEnds
  rw [e]
  exact h1.up (Nat.le_succ n)
theorem t_budget (h : Tie n S T) (c x : Int32) : Tie (n + 1) (oBudget S c x) (oBudget (sI T 24 0 0) c x) ∧ (oBudget (sI T 24 0 0) c x).1 24 0 = 0 ∧ S.1 3 (cl c) + x = T.1 3 (cl c) + x := by
  have e : (sI T 24 0 0).1 3 (cl c) = S.1 3 (cl c) := (sI_f (by decide)).trans (by rw [h.1.1.i (f := 3)])
  refine ⟨?_, (sI_f (by decide)).trans sI_s, by rw [h.1.1.i (f := 3)]⟩
  unfold oBudget
  rw [e]
  exact ((h.t24 0).one (f := 3) (by decide) (by decide)).up (Nat.le_succ n)
theorem t_done (h : Tie n S T) (t : Int32) : Tie (n + 1) (oDone S t) (oDone (sI T 24 0 0) t) ∧ (oDone (sI T 24 0 0) t).1 24 0 = 0 ∧ S.1 13 (cl t) - S.1 0 0 = T.1 13 (cl t) - T.1 0 0 :=
  ⟨((h.t24 0).one (f := 14) (by decide) (by decide)).up (Nat.le_succ n), (sI_f (by decide)).trans sI_s, by rw [h.1.1.i (f := 13), h.1.1.i (f := 0)]⟩
theorem vHold_e (h : eqR S T) (c : Int32) : vHold S c = vHold T c := by unfold vHold; rw [h.i (f := 4)]
theorem t_hold (h : Tie n S T) (c : Int32) : Tie (n + 1) (oHold S c) (oHold (sI T 24 0 0) c) ∧ (oHold (sI T 24 0 0) c).1 24 0 = 0 ∧ vHold S c = vHold T c := by
  refine ⟨?_, (sI_f (by decide)).trans sI_s, vHold_e h.1.1 c⟩
  unfold oHold
  rw [← vHold_e (h.1.1.it (v := 0) (by decide)) c]
  exact ((h.t24 0).one (f := 4) (by decide) (by decide)).up (Nat.le_succ n)
/-! archive -/
end TIE
theorem arcS_r (c : Nat) : ∀ (n : Nat) (S : kSt), (arcS S c n).2 = S.2 ∧ (∀ f, f ≠ 8 → (arcS S c n).1 f = S.1 f) ∧ (V01 S → n ≤ S.2 0 1 → V01 (arcS S c n))
  | 0, _ => ⟨rfl, fun _ _ => rfl, fun h _ => h⟩
  | n + 1, S => by
    obtain ⟨a1, a2, a3⟩ := arcS_r c n (sI S 8 n 1)
    obtain ⟨b1, b2, b3⟩ := arcS_r c n S
    simp only [arcS]
    split
    · refine ⟨a1, fun f hf => (a2 f hf).trans (sI_fn hf), fun h hn => a3 ⟨fun j => ?_, fun j => ?_, fun j hj => ?_⟩ (by simp only [sI]; omega)⟩
      · rw [sI_fn (by decide)]; exact h.1 j
      · by_cases e : j = n
        · rw [e, sI_s]; exact Or.inr rfl
        · rw [sI_n e]; exact h.2.1 j
      · have hj2 : S.2 0 1 ≤ j := hj
        rw [sI_fn (by decide), sI_n (by omega)]; exact h.2.2 j hj2
    · exact ⟨b1, b2, fun h hn => b3 h (by omega)⟩
section TIE2
variable {n : Nat} {S T S' T' : kSt}
theorem kdS_f (h : ∀ m, S'.1 (100 + m) = S.1 (100 + m)) : kdS S' = kdS S := by
  funext m u
  simp only [kdS, h m]
theorem t_arch (h : Tie n S T) (c : Nat) : Tie (n + 1) (arcS S c (S.2 0 1)) (arcS (sI T 24 0 0) c (T.2 0 1)) ∧ (arcS (sI T 24 0 0) c (T.2 0 1)).1 24 0 = 0 ∧ nI (arcN S c (S.2 0 1)) = nI (arcN (sI T 24 0 0) c (T.2 0 1)) := by
  rw [← h.1.1.c (j := 1)]
  obtain ⟨e1, e2⟩ := arcS_e c (S.2 0 1) S (sI T 24 0 0) (h.1.1.it (by decide))
  obtain ⟨a1, a2, a3⟩ := arcS_r c (S.2 0 1) S
  obtain ⟨b1, b2, -⟩ := arcS_r c (S.2 0 1) (sI T 24 0 0)
  have hk : kdS (arcS S c (S.2 0 1)) = kdS S := kdS_f (fun m => a2 _ (by omega))
  refine ⟨⟨(h.1.t24 0).easy a1 hk (a2 _ (by decide)) (a2 _ (by decide)) (a2 _ (by decide)) (b2 _ (by decide)) (b2 _ (by decide)) (b2 _ (by decide)) e1 (a3 h.1.2.2.2.2.2.2.2.1 (Nat.le_refl _)) (Nat.le_succ n) ((h.1.2.2.2.2.2.2.2.2.1.of (by rw [a2 _ (by decide)]) (a2 _ (by decide)) (a2 _ (by decide)) (a2 _ (by decide))).up (Nat.le_succ n)), h.2.of a1 hk (a2 _ (by decide)) (a2 _ (by decide)) (a2 _ (by decide)) (a2 _ (by decide)) (a2 _ (by decide)) (a2 _ (by decide)) (a2 _ (by decide))⟩, ?_, by rw [e2]⟩
  rw [b2 _ (by decide)]
  exact sI_s
end TIE2
/-! pass: the hours one by one, and at once -/
def dueK (S : kSt) (kd : Nat → Nat → Int32) (k : Nat) : Bool := decide (S.1 7 (S.2 3 k) = S.1 10 k) && appr S (kd (S.2 3 k)) (S.2 1 (S.2 3 k)) (S.2 0 0) (S.1 11 k)
def gnb (S : kSt) (kd : Nat → Nat → Int32) (k : Nat) : Bool := decide (S.1 12 k = 0) && !dueK S kd k
def gbk (S : kSt) (kd : Nat → Nat → Int32) (c : Nat) : Nat → Int32
  | 0 => 0
  | n + 1 => gbk S kd c n + (if (gnb S kd n && decide (S.2 2 (S.2 3 n) = c)) = true then S.1 11 n else 0)
theorem dueK_h {S S' : kSt} {kd : Nat → Nat → Int32} (h2 : S'.2 = S.2) (h : ∀ f j, f ≠ 12 → f ≠ 3 → S'.1 f j = S.1 f j) (k : Nat) : dueK S' kd k = dueK S kd k := by
  unfold dueK
  rw [h2, h 7 _ (by decide) (by decide), h 10 _ (by decide) (by decide), h 11 _ (by decide) (by decide), appr_c (h 0 0 (by decide) (by decide)) (fun j => h 1 j (by decide) (by decide)) (fun j => h 2 j (by decide) (by decide)) (fun _ _ => rfl)]
/-- what settling makes of the two registers that it changes -/
theorem stl_x (S : kSt) (kd : Nat → Nat → Int32) : ∀ n, (∀ k, (stl S kd n).1 12 k = if k < n ∧ gnb S kd k = true then 1 else S.1 12 k) ∧ ∀ c, (stl S kd n).1 3 c = S.1 3 c + gbk S kd c n
  | 0 => ⟨fun k => by rw [if_neg (fun z => Nat.not_lt_zero _ z.1)]; rfl, fun c => (Int32.add_zero _).symm⟩
  | n + 1 => by
    obtain ⟨i1, i2⟩ := stl_x S kd n
    obtain ⟨a1, a2, a3⟩ := stl_r S kd n
    have hg : ((stl S kd n).1 12 n = 0 ∧ ¬ ((stl S kd n).1 7 ((stl S kd n).2 3 n) = (stl S kd n).1 10 n ∧ appr (stl S kd n) (kd ((stl S kd n).2 3 n)) ((stl S kd n).2 1 ((stl S kd n).2 3 n)) ((stl S kd n).2 0 0) ((stl S kd n).1 11 n) = true)) ↔ gnb S kd n = true := by
      have hd := dueK_h (kd := kd) a1 a2 n
      rw [a3 n (Nat.le_refl _)]
      simp only [gnb, Bool.and_eq_true, decide_eq_true_eq, Bool.not_eq_true', ← hd]
      simp only [dueK, Bool.and_eq_false_iff, decide_eq_false_iff_not]
      constructor
      · rintro ⟨q1, q2⟩
        refine ⟨q1, ?_⟩
        by_cases e : (stl S kd n).1 7 ((stl S kd n).2 3 n) = (stl S kd n).1 10 n
        · exact Or.inr (eq_false_of_ne_true (fun z => q2 ⟨e, z⟩))
        · exact Or.inl e
      · rintro ⟨q1, q2⟩
        refine ⟨q1, fun z => ?_⟩
        rcases q2 with q | q
        · exact q z.1
        · rw [z.2] at q; cases q
    simp only [stl]
    unfold stl1
    by_cases hc : gnb S kd n = true
    · rw [if_pos (hg.mpr hc)]
      refine ⟨fun k => ?_, fun c => ?_⟩
      · rw [sI_f (by decide)]
        by_cases e : k = n
        · rw [e, sI_s, if_pos ⟨Nat.lt_succ_self _, hc⟩]
        · rw [sI_n e, i1 k]
          by_cases q : k < n ∧ gnb S kd k = true
          · rw [if_pos q, if_pos ⟨by omega, q.2⟩]
          · rw [if_neg q, if_neg (fun z => q ⟨by omega, z.2⟩)]
      · simp only [gbk]
        rw [a1, a2 11 n (by decide) (by decide), i2]
        by_cases e : S.2 2 (S.2 3 n) = c
        · rw [e, sI_s, if_pos (by rw [hc, decide_eq_true rfl]; rfl), Int32.add_assoc]
        · rw [sI_n (fun z => e z.symm), sI_f (by decide), if_neg (by rw [decide_eq_false e, Bool.and_false]; decide), i2, Int32.add_zero]
    · rw [if_neg (fun z => hc (hg.mp z))]
      refine ⟨fun k => ?_, fun c => ?_⟩
      · rw [i1 k]
        by_cases e : k = n
        · rw [e, if_neg (fun z => absurd z.1 (Nat.lt_irrefl _)), if_neg (fun z => hc z.2)]
        · by_cases q : k < n ∧ gnb S kd k = true
          · rw [if_pos q, if_pos ⟨by omega, q.2⟩]
          · rw [if_neg q, if_neg (fun z => q ⟨by omega, z.2⟩)]
      · simp only [gbk]
        rw [if_neg (by rw [eq_false_of_ne_true hc, Bool.false_and]; decide), i2, Int32.add_zero]
/-- later hours: a mark that counts then counts now -/
theorem cnts_m {S S' : kSt} {kd : Nat → Int32} {u : Nat} (h1 : S'.1 1 u = S.1 1 u) (hg : gone S u = true → gone S' u = true) (h : cnts S' kd u = true) : cnts S kd u = true := by
  simp only [cnts, Bool.and_eq_true, Bool.not_eq_true', decide_eq_true_eq] at h ⊢
  refine ⟨h.1, ?_, by rw [← h1]; exact h.2.2⟩
  cases e : gone S u
  · rfl
  · rw [hg e] at h; exact absurd h.2.1 (by decide)
theorem isY_m {S S' : kSt} {kd : Nat → Int32} {a u : Nat} (h1 : S'.1 1 u = S.1 1 u) (hg : gone S u = true → gone S' u = true) (h : isY S' kd a u = true) : isY S kd a u = true := by
  simp only [isY, Bool.and_eq_true] at h ⊢
  exact ⟨cnts_m h1 hg h.1, h.2.1, by rw [← h1]; exact h.2.2⟩
theorem bar_mono {S S' : kSt} {kd : Nat → Int32} (h1 : ∀ u, S'.1 1 u = S.1 1 u) (hg : ∀ u, gone S u = true → gone S' u = true) : ∀ n, bar S' kd n = true → bar S kd n = true
  | 0, h => h
  | n + 1, h => by
    simp only [bar, Bool.or_eq_true, Bool.and_eq_true] at h ⊢
    rcases h with h | h
    · exact Or.inl (bar_mono h1 hg n h)
    · exact Or.inr ⟨cnts_m (h1 n) (hg n) h.1, h.2⟩
theorem yesN_mono {S S' : kSt} {kd : Nat → Int32} {a : Nat} (h1 : ∀ u, S'.1 1 u = S.1 1 u) (hg : ∀ u, gone S u = true → gone S' u = true) : ∀ n, yesN S' kd a n ≤ yesN S kd a n
  | 0 => Nat.le_refl _
  | n + 1 => by
    have ih := yesN_mono (kd := kd) (a := a) h1 hg n
    simp only [yesN]
    by_cases e : isY S' kd a n = true
    · rw [if_pos e, if_pos (isY_m (h1 n) (hg n) e)]; omega
    · rw [if_neg e]; omega
theorem chfN_mono {S S' : kSt} {kd : Nat → Int32} {a : Nat} (h1 : ∀ u, S'.1 1 u = S.1 1 u) (hg : ∀ u, gone S u = true → gone S' u = true) : ∀ n, chfN S' kd a n ≤ chfN S kd a n
  | 0 => Nat.le_refl _
  | n + 1 => by
    have ih := chfN_mono (kd := kd) (a := a) h1 hg n
    simp only [chfN]
    by_cases e : (isY S' kd a n && decide (S'.1 1 n = 3)) = true
    · have e2 : (isY S kd a n && decide (S.1 1 n = 3)) = true := by
        rw [Bool.and_eq_true] at e ⊢
        exact ⟨isY_m (h1 n) (hg n) e.1, by rw [← h1]; exact e.2⟩
      rw [if_pos e, if_pos e2]; omega
    · rw [if_neg e]; omega
theorem appr_mono {S S' : kSt} {kd : Nat → Int32} {a n : Nat} {x : Int32} (h1 : ∀ u, S'.1 1 u = S.1 1 u) (hg : ∀ u, gone S u = true → gone S' u = true) (hb : bar S kd n = false) (h : appr S' kd a n x = true) : appr S kd a n x = true := by
  have hy := yesN_mono (kd := kd) (a := a) h1 hg n
  have hc := chfN_mono (kd := kd) (a := a) h1 hg n
  unfold appr at h ⊢
  rw [Bool.and_eq_true] at h ⊢
  refine ⟨by rw [hb]; rfl, ?_⟩
  have h := h.2
  by_cases q : 1000 < x
  · rw [if_pos q] at h ⊢
    simp only [Bool.and_eq_true, decide_eq_true_eq] at h ⊢
    omega
  · rw [if_neg q] at h ⊢
    simp only [decide_eq_true_eq] at h ⊢
    omega
abbrev sH (S : kSt) (h : Int32) : kSt := sI S 0 0 h
theorem gone_sH {S : kSt} {a b : Int32} (hab : a ≤ b) {u : Nat} (h : gone (sH S a) u = true) : gone (sH S b) u = true := by
  simp only [gone, Bool.and_eq_true, decide_eq_true_eq, sI_s, sI_f (show (2 : Nat) ≠ 0 by decide)] at h ⊢
  exact ⟨h.1, fun z => h.2 (Int32.lt_of_le_of_lt hab z)⟩
theorem dueK_m {S : kSt} {kd : Nat → Nat → Int32} {h0 a b : Int32} (h0a : h0 ≤ a) (hab : a ≤ b) {k : Nat} (hd : dueK (sH S h0) kd k = true) (h : dueK (sH S b) kd k = true) : dueK (sH S a) kd k = true := by
  unfold dueK at hd h ⊢
  rw [Bool.and_eq_true] at hd h ⊢
  refine ⟨h.1, ?_⟩
  have hb0 : bar (sH S h0) (kd (S.2 3 k)) (S.2 0 0) = false := by
    have := hd.2
    unfold appr at this
    rw [Bool.and_eq_true] at this
    have := this.1
    cases e : bar (sH S h0) (kd (S.2 3 k)) (S.2 0 0)
    · rfl
    · rw [show bar (sH S h0) (kd ((sH S h0).2 3 k)) ((sH S h0).2 0 0) = true from e] at this; cases this
  have hba : bar (sH S a) (kd (S.2 3 k)) (S.2 0 0) = false := by
    cases e : bar (sH S a) (kd (S.2 3 k)) (S.2 0 0)
    · rfl
    · rw [bar_mono (S := sH S h0) (S' := sH S a) (fun u => rfl) (fun u => gone_sH h0a) _ e] at hb0; cases hb0
  exact appr_mono (S := sH S a) (S' := sH S b) (fun u => rfl) (fun u => gone_sH hab) hba h.2
theorem sI_ne {S : kSt} {f i g j : Nat} {v : Int32} (h : ¬ (g = f ∧ j = i)) : (sI S f i v).1 g j = S.1 g j := if_neg h
theorem dueK_B {S : kSt} {kd : Nat → Nat → Int32} {a b : Int32} (K k : Nat) : dueK (sH (stl (sH S a) kd K) b) kd k = dueK (sH S b) kd k := by
  obtain ⟨a1, a2, -⟩ := stl_r (sH S a) kd K
  refine dueK_h (S' := sH (stl (sH S a) kd K) b) (S := sH S b) a1 (fun f j h1 h2 => ?_) k
  by_cases e : f = 0 ∧ j = 0
  · rw [e.1, e.2, sI_s, sI_s]
  · rw [sI_ne e, sI_ne e, a2 f j h1 h2, sI_ne e]
theorem gnb_B {S : kSt} {kd : Nat → Nat → Int32} {a b : Int32} {K k : Nat} (hk : k < K) (hm : gnb (sH S a) kd k = true → gnb (sH S b) kd k = true) : gnb (sH (stl (sH S a) kd K) b) kd k = (gnb (sH S b) kd k && !gnb (sH S a) kd k) := by
  have e12 : (sH (stl (sH S a) kd K) b).1 12 k = if k < K ∧ gnb (sH S a) kd k = true then 1 else S.1 12 k := by
    rw [sI_f (by decide), (stl_x (sH S a) kd K).1 k, sI_f (by decide)]
  cases e : gnb (sH S a) kd k
  · rw [if_neg (fun z => by rw [e] at z; exact absurd z.2 (by decide))] at e12
    have e2 : (sH S b).1 12 k = S.1 12 k := sI_f (by decide)
    unfold gnb
    rw [dueK_B, e12, e2]
    simp
  · rw [if_pos ⟨hk, e⟩] at e12
    unfold gnb
    rw [e12]
    simp
theorem gbk_B {S : kSt} {kd : Nat → Nat → Int32} {a b : Int32} {K : Nat} (hm : ∀ k, k < K → gnb (sH S a) kd k = true → gnb (sH S b) kd k = true) (c : Nat) : ∀ m, m ≤ K → gbk (sH S a) kd c m + gbk (sH (stl (sH S a) kd K) b) kd c m = gbk (sH S b) kd c m
  | 0, _ => Int32.add_zero _
  | m + 1, hK => by
    have ih := gbk_B hm c m (by omega)
    obtain ⟨a1, a2, -⟩ := stl_r (sH S a) kd K
    have hB2 : (sH (stl (sH S a) kd K) b).2 = S.2 := a1
    have h11 : (sH (stl (sH S a) kd K) b).1 11 m = S.1 11 m := by rw [sI_f (by decide), a2 11 m (by decide) (by decide), sI_f (by decide)]
    have h11a : (sH S a).1 11 m = S.1 11 m := sI_f (by decide)
    have h11b : (sH S b).1 11 m = S.1 11 m := sI_f (by decide)
    simp only [gbk]
    rw [gnb_B (by omega) (hm m (by omega)), hB2, h11, h11a, h11b, ← ih]
    show gbk (sH S a) kd c m + (if (gnb (sH S a) kd m && decide (S.2 2 (S.2 3 m) = c)) = true then S.1 11 m else 0) + (gbk (sH (stl (sH S a) kd K) b) kd c m + _) = _ + _ + (if (gnb (sH S b) kd m && decide (S.2 2 (S.2 3 m) = c)) = true then S.1 11 m else 0)
    have key : (if (gnb (sH S a) kd m && decide (S.2 2 (S.2 3 m) = c)) = true then S.1 11 m else 0) + (if (gnb (sH S b) kd m && !gnb (sH S a) kd m && decide (S.2 2 (S.2 3 m) = c)) = true then S.1 11 m else 0) = if (gnb (sH S b) kd m && decide (S.2 2 (S.2 3 m) = c)) = true then S.1 11 m else 0 := by
      have hmm := hm m (by omega)
      cases e1 : gnb (sH S a) kd m
      · cases e2 : gnb (sH S b) kd m <;> simp
      · rw [hmm e1]; simp
    rw [← key]
    generalize gbk (sH S a) kd c m = p
    generalize gbk (sH (stl (sH S a) kd K) b) kd c m = q
    generalize (if (gnb (sH S a) kd m && decide (S.2 2 (S.2 3 m) = c)) = true then S.1 11 m else 0) = r
    generalize (if (gnb (sH S b) kd m && !gnb (sH S a) kd m && decide (S.2 2 (S.2 3 m) = c)) = true then S.1 11 m else 0) = s
    rw [Int32.add_assoc, ← Int32.add_assoc r q s, Int32.add_comm r q, Int32.add_assoc q r s, ← Int32.add_assoc p q]
theorem stl_two {S : kSt} {kd : Nat → Nat → Int32} {h0 a b : Int32} {K : Nat} (h0a : h0 ≤ a) (hab : a ≤ b) (hs : ∀ k, k < K → S.1 12 k = 0 → dueK (sH S h0) kd k = true) : stl (sH (stl (sH S a) kd K) b) kd K = stl (sH S b) kd K := by
  have hm : ∀ k, k < K → gnb (sH S a) kd k = true → gnb (sH S b) kd k = true := by
    intro k hk h
    simp only [gnb, Bool.and_eq_true, decide_eq_true_eq, Bool.not_eq_true'] at h ⊢
    have h12 : (sH S a).1 12 k = S.1 12 k := sI_f (by decide)
    have h12b : (sH S b).1 12 k = S.1 12 k := sI_f (by decide)
    rw [h12] at h
    rw [h12b]
    refine ⟨h.1, ?_⟩
    cases e : dueK (sH S b) kd k
    · rfl
    · rw [dueK_m h0a hab (hs k hk h.1) e] at h; exact absurd h.2 (by decide)
  obtain ⟨a1, a2, -⟩ := stl_r (sH S a) kd K
  obtain ⟨b1, b2, -⟩ := stl_r (sH (stl (sH S a) kd K) b) kd K
  obtain ⟨c1, c2, -⟩ := stl_r (sH S b) kd K
  refine Prod.ext ?_ (b1.trans (a1.trans c1.symm))
  funext f j
  by_cases e12 : f = 12
  · subst e12
    rw [(stl_x _ kd K).1 j, (stl_x (sH S b) kd K).1 j]
    have q1 : (sH (stl (sH S a) kd K) b).1 12 j = if j < K ∧ gnb (sH S a) kd j = true then 1 else S.1 12 j := by
      rw [sI_f (by decide), (stl_x (sH S a) kd K).1 j, sI_f (by decide)]
    have q2 : (sH S b).1 12 j = S.1 12 j := sI_f (by decide)
    rw [q1, q2]
    by_cases hj : j < K
    · rw [gnb_B hj (hm j hj)]
      cases e1 : gnb (sH S a) kd j
      · simp
      · rw [hm j hj e1]; simp [hj]
    · rw [if_neg (fun z => hj z.1), if_neg (fun z => hj z.1), if_neg (fun z => hj z.1)]
  · by_cases e3 : f = 3
    · subst e3
      rw [(stl_x _ kd K).2 j, (stl_x (sH S b) kd K).2 j, sI_f (by decide), (stl_x (sH S a) kd K).2 j, sI_f (by decide), sI_f (by decide), Int32.add_assoc, gbk_B hm j K (Nat.le_refl _)]
    · rw [b2 f j e12 e3, c2 f j e12 e3]
      by_cases e : f = 0 ∧ j = 0
      · rw [e.1, e.2, sI_s, sI_s]
      · rw [sI_ne e, sI_ne e, a2 f j e12 e3, sI_ne e]
theorem itP_x {S : kSt} {kd : Nat → Nat → Int32} {h : Nat} (eh : S.1 0 0 = nI h) (hs : ∀ k, k < S.2 0 2 → S.1 12 k = 0 → dueK S kd k = true) : ∀ j, h + (j + 1) < 2 ^ 31 → itP S kd (j + 1) = stl (sH S (nI (h + (j + 1)))) kd (S.2 0 2)
  | 0, _ => by
    simp only [itP]
    rw [eh, nI_1]
  | j + 1, hb => by
    have ih := itP_x eh hs j (by omega)
    rw [itP, ih]
    have e0 : (stl (sH S (nI (h + (j + 1)))) kd (S.2 0 2)).1 0 0 = nI (h + (j + 1)) := ((stl_r _ kd _).2.1 0 0 (by decide) (by decide)).trans sI_s
    rw [e0, nI_1]
    refine stl_two (h0 := nI h) ((nI_leI (by omega) (by omega)).mpr (by omega)) ((nI_leI (by omega) (by omega)).mpr (by omega)) (fun k hk h12 => ?_)
    rw [show sH S (nI h) = S from by rw [← eh]; exact sI_id S 0 0]
    exact hs k hk h12
theorem dueK_e {S T : kSt} (h : eqR S T) {kd kd' : Nat → Nat → Int32} {k : Nat} (hk : ∀ u, u < S.2 0 0 → kd (S.2 3 k) u = kd' (S.2 3 k) u) : dueK S kd k = dueK T kd' k := by
  unfold dueK
  rw [← h.n (f := 3), ← h.n (f := 1), ← h.c (j := 0), ← h.i (f := 7), ← h.i (f := 10), ← h.i (f := 11), appr_e h hk]
theorem t_pass {n : Nat} {S T : kSt} (h : Tie n S T) (hn : n < 512) (x : Int32) (hx : inR x 1 1000 = true) : Tie (n + 1) (oPassC S x) (itP (sI T 24 0 0) (kdT T) (cl x)) ∧ (itP (sI T 24 0 0) (kdT T) (cl x)).1 24 0 = 0 ∧ S.1 0 0 + x = (itP (sI T 24 0 0) (kdT T) (cl x)).1 0 0 := by
  obtain ⟨j, hj1, hj2, rfl⟩ := inR_h hx
  obtain ⟨⟨q, hq, eq⟩, hbd⟩ := h.1.2.2.2.2.2.2.2.2.1
  have P0 := h.1.t24 0
  have hu := h.1.2.2.1.1
  have eT : (sI T 24 0 0).1 0 0 = nI q := by rw [← eq, ← P0.1.i (f := 0)]
  have hsT : ∀ k, k < (sI T 24 0 0).2 0 2 → (sI T 24 0 0).1 12 k = 0 → dueK (sI T 24 0 0) (kdT T) k = true := by
    intro k hk h12
    rw [← P0.1.c (j := 2)] at hk
    rw [← P0.1.i (f := 12)] at h12
    rw [← dueK_e P0.1 (kd := kdS S) (fun u hu2 => h.1.2.1 _ u (h.1.2.2.1.2.2.2.2.2.1 k hk) (by omega))]
    exact h.2 k hk h12
  rw [show cl (nI j) = (j - 1) + 1 from by rw [cl_nI (by omega)]; omega, itP_x eT hsT (j - 1) (by omega), show q + (j - 1 + 1) = q + j by omega]
  have ev : S.1 0 0 + nI j = nI (q + j) := by rw [eq]; exact nI_add _ _
  have e7 : (sI T 24 0 0).1 7 = T.1 7 := sI_fn (by decide)
  have P1 : PT (n + 1) (sI S 0 0 (nI (q + j))) (sI (sI T 24 0 0) 0 0 (nI (q + j))) := by
    refine P0.easy (S' := sI S 0 0 (nI (q + j))) (T' := sI (sI T 24 0 0) 0 0 (nI (q + j))) rfl (kdS_sI (by decide)) (sI_fn (by decide)) (sI_fn (by decide)) (sI_fn (by decide)) (sI_fn (by decide)) (sI_fn (by decide)) (sI_fn (by decide)) P0.1.ii (h.1.2.2.2.2.2.2.2.1.of (sI_fn (by decide)) (sI_fn (by decide)) (sI_fn (by decide)) (Nat.le_refl _)) (Nat.le_succ n) ⟨⟨q + j, by omega, sI_s⟩, ?_, ?_, ?_⟩
    · rw [sI_fn (by decide)]; intro i; obtain ⟨v, a, b⟩ := hbd.1 i; exact ⟨v, by omega, b⟩
    · rw [sI_fn (by decide)]; intro i; obtain ⟨v, a, b⟩ := hbd.2.1 i; exact ⟨v, by omega, b⟩
    · rw [sI_fn (by decide)]; intro i; obtain ⟨v, a, b⟩ := hbd.2.2 i; exact ⟨v, by omega, b⟩
  have P2 := P1.set
  have ek : kdT (sI (sI T 24 0 0) 0 0 (nI (q + j))) = kdT T := kdT_c ((sI_fn (by decide)).trans (sI_fn (by decide))) ((sI_fn (by decide)).trans (sI_fn (by decide))) ((sI_fn (by decide)).trans (sI_fn (by decide)))
  rw [kdS_sI (by decide), ek] at P2
  refine ⟨?_, ?_, ?_⟩
  · unfold oPassC
    rw [ev]
    exact P2
  · rw [stl_24]
    exact (sI_f (by decide)).trans sI_s
  · rw [ev]
    exact (((stl_r _ _ _).2.1 0 0 (by decide) (by decide)).trans sI_s).symm
/-! user, post, spend, task -/
theorem cUser_0 {S : kSt} {x : Int32} (h : cUser S x = 0) : inR x 0 3 = true ∧ S.2 0 0 ≠ 12 := by
  unfold cUser at h
  by_cases a : inR x 0 3 = false
  · rw [if_pos a] at h; exact absurd h (by decide)
  · rw [if_neg a] at h
    by_cases b : S.2 0 0 = 12
    · rw [if_pos b] at h; exact absurd h (by decide)
    · exact ⟨eq_true_of_ne_false a, b⟩
theorem oUser_1 {S : kSt} {x : Int32} : (oUser S x).1 = (sI (sI S 1 (S.2 0 0) x) 2 (S.2 0 0) (-1)).1 := rfl
theorem oPost_1 {S : kSt} {u c p : Int32} : (oPost S u c p).1 = (sI (sI S 5 (S.2 0 1) p) 6 (S.2 0 1) (S.1 0 0)).1 := rfl
theorem oPostM_1 {S : kSt} {u c p : Int32} : (oPostM S u c p).1 = (sR (sI (sI S 5 (S.2 0 1) p) 6 (S.2 0 1) (S.1 0 0)) 21 (12 * S.2 0 1) 12 (-1)).1 := rfl
theorem okL_of {S S' : kSt} (h : okL S) (li : Nat) (hc : ∀ i, i ≠ li → i < 5 → lcnt S' i = lcnt S i ∧ S'.2 6 i = S.2 6 i) (cap : Nat) (h1 : lcnt S' li ≤ cap) (h2 : S'.2 6 li = cap) (h3 : 10 ≤ cap ∧ cap ≤ 120) : okL S' := by
  intro i hi
  by_cases e : i = li
  · subst e
    rw [h2]
    exact ⟨h1, h3.2, Or.inr h3.1⟩
  · obtain ⟨a, b⟩ := hc i e hi
    rw [a, b]
    exact h i hi
section TIE3
variable {n : Nat} {S T : kSt}
theorem t_user (h : Tie n S T) (x : Int32) (hc : cUser S x = 0) {cap : Nat} (hcap : capok (S.2 0 0) cap) : Tie (n + 1) (gU S x cap) (oUser (sI T 24 0 0) x) := by
  obtain ⟨-, h12⟩ := cUser_0 hc
  have P0 := h.1.t24 0
  obtain ⟨hE, hkd, hN, hL, hM, hG, hc4, hV, hB, h22⟩ := P0
  have hN2 := hN
  obtain ⟨n1, n2, n3, n4, n5, n6, n7⟩ := hN
  have e1 : ∀ {f : Nat}, f ≠ 1 ∧ f ≠ 2 ∧ f ≠ 19 → (gU S x cap).1 f = S.1 f := gU_1
  have hk : kdS (gU S x cap) = kdS S := kdS_f (fun m => e1 (by omega))
  have c0 : (gU S x cap).2 0 0 = S.2 0 0 + 1 := rfl
  have c1 : (gU S x cap).2 0 1 = S.2 0 1 := rfl
  have c2 : (gU S x cap).2 0 2 = S.2 0 2 := rfl
  have c3 : (gU S x cap).2 0 3 = S.2 0 3 := rfl
  have c4 : (gU S x cap).2 0 4 = S.2 0 4 := rfl
  have g1 : (gU S x cap).2 1 = S.2 1 := rfl
  have g2 : (gU S x cap).2 2 = S.2 2 := rfl
  have g3 : (gU S x cap).2 3 = S.2 3 := rfl
  have g4 : (gU S x cap).2 4 = S.2 4 := rfl
  have g5 : (gU S x cap).2 5 = S.2 5 := rfl
  have t7 : (oUser (sI T 24 0 0) x).1 7 = (sI T 24 0 0).1 7 := by rw [oUser_1]; exact (sI_fn (by decide)).trans (sI_fn (by decide))
  have t21 : (oUser (sI T 24 0 0) x).1 21 = (sI T 24 0 0).1 21 := by rw [oUser_1]; exact (sI_fn (by decide)).trans (sI_fn (by decide))
  have t22 : (oUser (sI T 24 0 0) x).1 22 = (sI T 24 0 0).1 22 := by rw [oUser_1]; exact (sI_fn (by decide)).trans (sI_fn (by decide))
  refine ⟨⟨?_, fun m u hm hu => ?_, ?_, ?_, fun m u hm hu => ?_, hG.of (e1 (by decide)) (e1 (by decide)) (e1 (by decide)) c4 c1 hk, by rw [c4]; omega, hV.of (e1 (by decide)) (e1 (by decide)) (e1 (by decide)) (Nat.le_refl _), (hB.of (by rw [e1 (by decide)]) (e1 (by decide)) (e1 (by decide)) (e1 (by decide))).up (Nat.le_succ n), h22.of t22 t7⟩, fun k hk2 h12k => ?_⟩
  · unfold gU oUser
    rw [← hE.c (j := 0)]
    exact (((hE.ii.ii).nn).ns (by decide)).is (by decide)
  · rw [hk, kdT_c t7 t21 t22]; exact hkd m u hm hu
  · refine ⟨by rw [c0]; omega, n2, n3, n4, fun j hj => ?_, n6, fun j hj => ?_⟩
    · rw [g1, g2, c0]; have := n5 j hj; omega
    · rw [g4, g5, c0]; have := n7 j hj; omega
  · refine okL_of hL 1 (fun i hi h5 => ?_) cap (show S.2 0 0 + 1 ≤ cap from hcap.1) rfl hcap.2
    match i, h5 with
    | 0, _ => exact ⟨rfl, rfl⟩
    | 1, _ => exact absurd rfl hi
    | 2, _ => exact ⟨rfl, rfl⟩
    | 3, _ => exact ⟨rfl, rfl⟩
    | 4, _ => exact ⟨rfl, rfl⟩
  · rw [hk, c0]
    obtain ⟨a, b⟩ := hM m u hm hu
    exact ⟨a, fun q => b (by omega)⟩
  · have hd := h.2 k hk2 (by rw [← h12k, e1 (by decide)])
    have hmk := n6 k hk2
    rw [← hd]
    unfold due
    rw [g3, g1, c0, hk, e1 (by decide), e1 (by decide), e1 (by decide), appr_last ((hM _ _ hmk (by omega)).2 (Nat.le_refl _)), appr_l (S := S) (S' := gU S x cap) (kd := kdS S (S.2 3 k)) (by rw [e1 (by decide)]) (fun u hu => ⟨rfl, ?_, ?_⟩)]
    · show (sI (sN (oUser S x) 6 1 cap) 19 1 (S.1 19 1 + 1)).1 1 u = _
      rw [sI_f (by decide)]
      show (sI (sI S 1 (S.2 0 0) x) 2 (S.2 0 0) (-1)).1 1 u = _
      rw [sI_f (by decide), sI_n (by omega)]
    · show (sI (sN (oUser S x) 6 1 cap) 19 1 (S.1 19 1 + 1)).1 2 u = _
      rw [sI_f (by decide)]
      show (sI (sI S 1 (S.2 0 0) x) 2 (S.2 0 0) (-1)).1 2 u = _
      rw [sI_n (by omega), sI_f (by decide)]
theorem oUser_24 {x : Int32} : (oUser (sI T 24 0 0) x).1 24 0 = 0 := by
  rw [oUser_1]
  exact (sI_f (by decide)).trans ((sI_f (by decide)).trans sI_s)
theorem cPost_0 {u c p : Int32} (hS : okN S) (h : cPost S u c p = 0) : cl u < S.2 0 0 ∧ cl c < 6 ∧ S.2 0 1 < 80 := by
  have h1 := hS.1
  have h2 := hS.2.1
  unfold cPost at h
  by_cases a : (inB u (S.2 0 0) && (inB c 6 && (decide (p = -1) || inB p (S.2 0 1)))) = false
  · rw [if_pos a] at h; exact absurd h (by decide)
  · rw [if_neg a] at h
    have a := eq_true_of_ne_false a
    simp only [Bool.and_eq_true] at a
    refine ⟨cl_in a.1 (by omega), cl_in a.2.1 (by decide), ?_⟩
    by_cases b : (!gone S (cl u) && (decide (S.2 0 1 < 80) && (decide (p = -1) || (decide (S.2 2 (cl p) = cl c) && decide (S.1 8 (cl p) = 0))))) = false
    · rw [if_pos b] at h; exact absurd h (by decide)
    · have b := eq_true_of_ne_false b
      simp only [Bool.and_eq_true, decide_eq_true_eq] at b
      exact b.2.1
theorem t_post (h : Tie n S T) (u c p : Int32) (hc : cPost S u c p = 0) {cap : Nat} (hcap : capok (S.2 0 1) cap) : Tie (n + 1) (gM S u c p cap) (oPostM (sI T 24 0 0) u c p) := by
  have P0 := h.1.t24 0
  obtain ⟨hE, hkd, hN, hL, hM, hG, hc4, hV, hB, h22⟩ := P0
  obtain ⟨hu9, hc9, hm9⟩ := cPost_0 hN hc
  obtain ⟨n1, n2, n3, n4, n5, n6, n7⟩ := hN
  have e1 : ∀ {f : Nat}, f ≠ 5 ∧ f ≠ 6 ∧ f ≠ 7 ∧ f ≠ 8 ∧ f ≠ 19 → f < 100 → (gM S u c p cap).1 f = S.1 f := fun hf hf2 => gM_1 hf (by omega)
  have i7 : sI (oPost S u c p) 7 (S.2 0 1) 0 = oPost S u c p := by
    have : (oPost S u c p).1 7 (S.2 0 1) = 0 := by rw [oPost_1]; exact ((sI_f (by decide)).trans (sI_f (by decide))).trans (hV.2.2 _ (Nat.le_refl _)).1
    rw [← this]; exact sI_id _ _ _
  have i8 : sI (oPost S u c p) 8 (S.2 0 1) 0 = oPost S u c p := by
    have : (oPost S u c p).1 8 (S.2 0 1) = 0 := by rw [oPost_1]; exact ((sI_f (by decide)).trans (sI_f (by decide))).trans (hV.2.2 _ (Nat.le_refl _)).2
    rw [← this]; exact sI_id _ _ _
  have eG : gM S u c p cap = sI (sN (sF (oPost S u c p) (100 + S.2 0 1) (fun q => if q < 12 then -1 else 0)) 6 2 cap) 19 2 (S.1 19 2 + 1) := by
    unfold gM oPo
    rw [i7, i8]
  have e7 : (gM S u c p cap).1 7 = S.1 7 := by
    rw [eG, sI_fn (by decide)]
    show (sF (oPost S u c p) (100 + S.2 0 1) _).1 7 = _
    rw [sF_fn (by omega), oPost_1]
    exact (sI_fn (by decide)).trans (sI_fn (by decide))
  have e8 : (gM S u c p cap).1 8 = S.1 8 := by
    rw [eG, sI_fn (by decide)]
    show (sF (oPost S u c p) (100 + S.2 0 1) _).1 8 = _
    rw [sF_fn (by omega), oPost_1]
    exact (sI_fn (by decide)).trans (sI_fn (by decide))
  have hk1 : ∀ m, m ≠ S.2 0 1 → kdS (gM S u c p cap) m = kdS S m := fun m hm => by
    show (gM S u c p cap).1 (100 + m) = S.1 (100 + m)
    exact gM_1 (by omega) (by omega)
  have hk2 : ∀ v, v < 12 → kdS (gM S u c p cap) (S.2 0 1) v = -1 := fun v hv => by
    show (gM S u c p cap).1 (100 + S.2 0 1) v = -1
    rw [gM_hi]
    exact if_pos hv
  have c0 : (gM S u c p cap).2 0 0 = S.2 0 0 := rfl
  have c1 : (gM S u c p cap).2 0 1 = S.2 0 1 + 1 := rfl
  have c4 : (gM S u c p cap).2 0 4 = S.2 0 4 := rfl
  have g1 : ∀ j, j ≠ S.2 0 1 → (gM S u c p cap).2 1 j = S.2 1 j := fun j hj => if_neg (fun z => hj z.2)
  have g2 : ∀ j, j ≠ S.2 0 1 → (gM S u c p cap).2 2 j = S.2 2 j := fun j hj => if_neg (fun z => hj z.2)
  have g1s : (gM S u c p cap).2 1 (S.2 0 1) = cl u := if_pos ⟨rfl, rfl⟩
  have g2s : (gM S u c p cap).2 2 (S.2 0 1) = cl c := if_pos ⟨rfl, rfl⟩
  have g3 : (gM S u c p cap).2 3 = S.2 3 := rfl
  have g4 : (gM S u c p cap).2 4 = S.2 4 := rfl
  have g5 : (gM S u c p cap).2 5 = S.2 5 := rfl
  have eT : oPostM (sI T 24 0 0) u c p = sN (sR (sI (sI (sN (sN (sI T 24 0 0) 1 (S.2 0 1) (cl u)) 2 (S.2 0 1) (cl c)) 5 (S.2 0 1) p) 6 (S.2 0 1) (S.1 0 0)) 21 (12 * S.2 0 1) 12 (-1)) 0 1 (S.2 0 1 + 1) := by
    unfold oPostM
    rw [← hE.c (j := 1), ← hE.i (f := 0)]
  have t7 : (oPostM (sI T 24 0 0) u c p).1 7 = (sI T 24 0 0).1 7 := by rw [oPostM_1]; exact (sR_fn (by decide)).trans ((sI_fn (by decide)).trans (sI_fn (by decide)))
  have t22 : (oPostM (sI T 24 0 0) u c p).1 22 = (sI T 24 0 0).1 22 := by rw [oPostM_1]; exact (sR_fn (by decide)).trans ((sI_fn (by decide)).trans (sI_fn (by decide)))
  have t21 : ∀ j, (oPostM (sI T 24 0 0) u c p).1 21 j = if 12 * S.2 0 1 ≤ j ∧ j < 12 * S.2 0 1 + 12 then -1 else (sI T 24 0 0).1 21 j := by
    intro j
    rw [oPostM_1, ← hE.c (j := 1)]
    by_cases e : 12 * S.2 0 1 ≤ j ∧ j < 12 * S.2 0 1 + 12
    · rw [if_pos e]; exact if_pos ⟨rfl, e⟩
    · rw [if_neg e]
      refine (if_neg (fun z => e z.2)).trans ?_
      exact (sI_f (by decide)).trans (sI_f (by decide))
  refine ⟨⟨?_, fun m v hm hv => ?_, ?_, ?_, fun m v hm hv => ?_, ⟨?_, fun i hi => ?_, fun b0 m v hm hv => ?_⟩, by rw [c4]; omega, ⟨?_, ?_, fun j hj => ?_⟩, (hB.of (by rw [e1 (by decide) (by decide)]) e7 (e1 (by decide) (by decide)) (e1 (by decide) (by decide))).up (Nat.le_succ n), h22.of t22 t7⟩, fun k hk2 h12k => ?_⟩
  · rw [eG, eT]
    unfold oPost
    exact (((((hE.nn.nn).ii.ii).rt (by decide)).nn).fs (fun z => by rcases z with z | z <;> omega)).ns (by decide) |>.is (by decide)
  · by_cases e : m = S.2 0 1
    · subst e
      rw [hk2 v hv]
      unfold kdT
      rw [t21, if_pos (show 12 * S.2 0 1 ≤ 12 * S.2 0 1 + v ∧ 12 * S.2 0 1 + v < 12 * S.2 0 1 + 12 from ⟨by omega, by omega⟩)]
      split <;> rfl
    · rw [hk1 m e]
      have hm2 : m < S.2 0 1 := by rw [c1] at hm; omega
      rw [hkd m v hm2 hv]
      unfold kdT
      rw [t7, t22, t21, if_neg (show ¬ (12 * S.2 0 1 ≤ 12 * m + v ∧ 12 * m + v < 12 * S.2 0 1 + 12) from by omega)]
  · refine ⟨n1, by rw [c1]; omega, n3, n4, fun j hj => ?_, fun j hj => ?_, fun j hj => ?_⟩
    · rw [c0]
      by_cases e : j = S.2 0 1
      · subst e; rw [g1s, g2s]; exact ⟨hu9, hc9⟩
      · rw [g1 j e, g2 j e]; exact n5 j (by rw [c1] at hj; omega)
    · rw [g3, c1]; have := n6 j hj; omega
    · rw [g4, g5, c1, c0]; have := n7 j hj; omega
  · refine okL_of hL 2 (fun i hi h5 => ?_) cap (show S.2 0 1 + 1 ≤ cap from hcap.1) rfl hcap.2
    match i, h5 with
    | 0, _ => exact ⟨rfl, rfl⟩
    | 1, _ => exact ⟨rfl, rfl⟩
    | 2, _ => exact absurd rfl hi
    | 3, _ => exact ⟨rfl, rfl⟩
    | 4, _ => exact ⟨rfl, rfl⟩
  · by_cases e : m = S.2 0 1
    · subst e; rw [hk2 v hv]; exact ⟨Or.inl rfl, fun _ => rfl⟩
    · rw [hk1 m e, c0]; exact hM m v (by rw [c1] at hm; omega) hv
  · obtain ⟨f1, -, -⟩ := hG
    unfold okLg at f1 ⊢
    rw [c4, e1 (by decide) (by decide), e1 (by decide) (by decide)]
    exact f1
  · obtain ⟨m, q1, q2⟩ := hG.2.1 i hi
    rw [e1 (by decide) (by decide), c1]
    exact ⟨m, by omega, q2⟩
  · rw [c4, rpl_c (S := S) (S' := gM S u c p cap) _ (fun i _ => ⟨by rw [e1 (by decide) (by decide)], by rw [e1 (by decide) (by decide)], by rw [e1 (by decide) (by decide)]⟩)]
    by_cases e : m = S.2 0 1
    · subst e
      rw [hk2 v hv]
      refine rpl_none hv _ (fun i hi => ?_)
      obtain ⟨m, q1, q2⟩ := hG.2.1 i hi
      rw [q2]
      exact fun z => by have := (nI_eq (by omega) (by omega)).mp z; omega
    · rw [hk1 m e]
      exact hG.2.2 b0 m v (by rw [c1] at hm; omega) hv
  · rw [e1 (by decide) (by decide)]; exact hV.1
  · rw [e8]; exact hV.2.1
  · rw [e7, e8]; exact hV.2.2 j (by rw [c1] at hj; omega)
  · have hd := h.2 k hk2 (by rw [← h12k, e1 (by decide) (by decide)])
    have hmk := n6 k hk2
    rw [← hd]
    exact due_l (by rw [g3]) (by rw [e7]) (by rw [e1 (by decide) (by decide)]) (by rw [e1 (by decide) (by decide)]) (g1 _ (by omega)) c0 (by rw [e1 (by decide) (by decide)]) (fun v _ => ⟨by rw [hk1 _ (by omega)], by rw [e1 (by decide) (by decide)], by rw [e1 (by decide) (by decide)]⟩)
theorem oPostM_24 {u c p : Int32} : (oPostM (sI T 24 0 0) u c p).1 24 0 = 0 := by
  rw [oPostM_1, sR_fn (by decide)]
  exact (sI_f (by decide)).trans ((sI_f (by decide)).trans sI_s)
end TIE3
section TIE4
variable {n : Nat} {S T : kSt}
theorem oSpend_1 {S : kSt} {m x : Int32} : (oSpend S m x).1 = (sI (sI (sI (sI S 10 (S.2 0 2) (S.1 7 (cl m))) 11 (S.2 0 2) x) 12 (S.2 0 2) 0) 3 (S.2 2 (cl m)) (S.1 3 (S.2 2 (cl m)) - x)).1 := rfl
theorem oTask_1 {S : kSt} {m w x : Int32} : (oTask S m w x).1 = (sI (sI (sI S 20 (S.2 0 3) (S.1 7 (cl m))) 13 (S.2 0 3) (S.1 0 0 + x)) 14 (S.2 0 3) 0).1 := rfl
theorem cSpend_0 {kd : Nat → Nat → Int32} {u m x : Int32} (hS : okN S) (h : cSpend S kd u m x = 0) : cl m < S.2 0 1 ∧ S.2 0 2 < 60 ∧ appr S (kd (cl m)) (S.2 1 (cl m)) (S.2 0 0) x = true := by
  have h1 := hS.1
  have h2 := hS.2.1
  unfold cSpend at h
  by_cases a : (inB u (S.2 0 0) && inB m (S.2 0 1)) = false
  · rw [if_pos a] at h; exact absurd h (by decide)
  · rw [if_neg a] at h
    have a := eq_true_of_ne_false a
    simp only [Bool.and_eq_true] at a
    by_cases b : inR x 1 1000000 = false
    · rw [if_pos b] at h; exact absurd h (by decide)
    · rw [if_neg b] at h
      by_cases q : (!gone S (cl u) && (decide (S.1 8 (cl m) = 0) && (decide (S.2 0 2 < 60) && (appr S (kd (cl m)) (S.2 1 (cl m)) (S.2 0 0) x && decide (¬ S.1 3 (S.2 2 (cl m)) < x))))) = false
      · rw [if_pos q] at h; exact absurd h (by decide)
      · have q := eq_true_of_ne_false q
        simp only [Bool.and_eq_true, decide_eq_true_eq] at q
        exact ⟨cl_in a.2 (by omega), q.2.2.1, q.2.2.2.1⟩
theorem t_spend (h : Tie n S T) (u m x : Int32) (hc : cSpend S (kdS S) u m x = 0) {cap : Nat} (hcap : capok (S.2 0 2) cap) : Tie (n + 1) (gS S m x cap) (oSpend (sI T 24 0 0) m x) := by
  have P0 := h.1.t24 0
  obtain ⟨hE, hkd, hN, hL, hM, hG, hc4, hV, hB, h22⟩ := P0
  obtain ⟨hm9, hs9, ha9⟩ := cSpend_0 hN hc
  obtain ⟨n1, n2, n3, n4, n5, n6, n7⟩ := hN
  have e1 : ∀ {f : Nat}, f ≠ 3 ∧ f ≠ 10 ∧ f ≠ 11 ∧ f ≠ 12 ∧ f ≠ 19 → (gS S m x cap).1 f = S.1 f := gS_1
  have hk : kdS (gS S m x cap) = kdS S := kdS_f (fun m => e1 (by omega))
  have g1x : (gS S m x cap).1 = (sI (oSpend S m x) 19 3 (S.1 19 3 + 1)).1 := rfl
  have e10 : ∀ j, (gS S m x cap).1 10 j = if j = S.2 0 2 then S.1 7 (cl m) else S.1 10 j := by
    intro j
    rw [g1x, sI_f (by decide), oSpend_1, sI_f (by decide), sI_f (by decide), sI_f (by decide)]
    by_cases e : j = S.2 0 2
    · rw [if_pos e, e, sI_s]
    · rw [if_neg e, sI_n e]
  have e11 : ∀ j, (gS S m x cap).1 11 j = if j = S.2 0 2 then x else S.1 11 j := by
    intro j
    rw [g1x, sI_f (by decide), oSpend_1, sI_f (by decide), sI_f (by decide)]
    by_cases e : j = S.2 0 2
    · rw [if_pos e, e, sI_s]
    · rw [if_neg e, sI_n e, sI_f (by decide)]
  have e12 : ∀ j, (gS S m x cap).1 12 j = if j = S.2 0 2 then 0 else S.1 12 j := by
    intro j
    rw [g1x, sI_f (by decide), oSpend_1, sI_f (by decide)]
    by_cases e : j = S.2 0 2
    · rw [if_pos e, e, sI_s]
    · rw [if_neg e, sI_n e, sI_f (by decide), sI_f (by decide)]
  have c0 : (gS S m x cap).2 0 0 = S.2 0 0 := rfl
  have c1 : (gS S m x cap).2 0 1 = S.2 0 1 := rfl
  have c2 : (gS S m x cap).2 0 2 = S.2 0 2 + 1 := rfl
  have c4 : (gS S m x cap).2 0 4 = S.2 0 4 := rfl
  have g1 : (gS S m x cap).2 1 = S.2 1 := rfl
  have g2 : (gS S m x cap).2 2 = S.2 2 := rfl
  have g3 : ∀ j, j ≠ S.2 0 2 → (gS S m x cap).2 3 j = S.2 3 j := fun j hj => if_neg (fun z => hj z.2)
  have g3s : (gS S m x cap).2 3 (S.2 0 2) = cl m := if_pos ⟨rfl, rfl⟩
  have g4 : (gS S m x cap).2 4 = S.2 4 := rfl
  have g5 : (gS S m x cap).2 5 = S.2 5 := rfl
  have t7 : (oSpend (sI T 24 0 0) m x).1 7 = (sI T 24 0 0).1 7 := by rw [oSpend_1]; exact (sI_fn (by decide)).trans ((sI_fn (by decide)).trans ((sI_fn (by decide)).trans (sI_fn (by decide))))
  have t21 : (oSpend (sI T 24 0 0) m x).1 21 = (sI T 24 0 0).1 21 := by rw [oSpend_1]; exact (sI_fn (by decide)).trans ((sI_fn (by decide)).trans ((sI_fn (by decide)).trans (sI_fn (by decide))))
  have t22 : (oSpend (sI T 24 0 0) m x).1 22 = (sI T 24 0 0).1 22 := by rw [oSpend_1]; exact (sI_fn (by decide)).trans ((sI_fn (by decide)).trans ((sI_fn (by decide)).trans (sI_fn (by decide))))
  refine ⟨⟨?_, fun a v hm hv => ?_, ?_, ?_, fun a v hm hv => ?_, hG.of (e1 (by decide)) (e1 (by decide)) (e1 (by decide)) c4 c1 hk, by rw [c4]; omega, ⟨fun j => ?_, ?_, ?_⟩, (hB.of (by rw [e1 (by decide)]) (e1 (by decide)) (e1 (by decide)) (e1 (by decide))).up (Nat.le_succ n), h22.of t22 t7⟩, fun k hk2 h12k => ?_⟩
  · unfold gS oSpend
    rw [← hE.c (j := 2), ← hE.i (f := 7), ← hE.i (f := 3), ← hE.n (f := 2)]
    exact ((hE.nn.ii.ii.ii.ii.nn).ns (by decide)).is (by decide)
  · rw [hk, kdT_c t7 t21 t22]; exact hkd a v hm hv
  · refine ⟨n1, n2, by rw [c2]; omega, n4, n5, fun j hj => ?_, n7⟩
    by_cases e : j = S.2 0 2
    · rw [e, g3s, c1]; exact hm9
    · rw [g3 j e, c1]; exact n6 j (by rw [c2] at hj; omega)
  · refine okL_of hL 3 (fun i hi h5 => ?_) cap (show S.2 0 2 + 1 ≤ cap from hcap.1) rfl hcap.2
    match i, h5 with
    | 0, _ => exact ⟨rfl, rfl⟩
    | 1, _ => exact ⟨rfl, rfl⟩
    | 2, _ => exact ⟨rfl, rfl⟩
    | 3, _ => exact absurd rfl hi
    | 4, _ => exact ⟨rfl, rfl⟩
  · rw [hk, c0]
    exact hM a v hm hv
  · rw [e12]
    split
    · exact Or.inl rfl
    · exact hV.1 j
  · rw [e1 (by decide)]; exact hV.2.1
  · rw [e1 (by decide), e1 (by decide)]; exact hV.2.2
  · by_cases e : k = S.2 0 2
    · subst e
      unfold due
      rw [g3s, e10, if_pos rfl, e11, if_pos rfl, e1 (by decide), hk, g1, c0, decide_eq_true rfl, Bool.true_and, ← ha9]
      exact appr_l (by rw [e1 (by decide)]) (fun v _ => ⟨rfl, by rw [e1 (by decide)], by rw [e1 (by decide)]⟩)
    · have hk3 : k < S.2 0 2 := by rw [c2] at hk2; omega
      rw [e12, if_neg e] at h12k
      have hd := h.2 k hk3 h12k
      rw [← hd]
      exact due_l (g3 k e) (by rw [e1 (by decide)]) (by rw [e10, if_neg e]) (by rw [e11, if_neg e]) (by rw [g1]) c0 (by rw [e1 (by decide)]) (fun v _ => ⟨by rw [hk], by rw [e1 (by decide)], by rw [e1 (by decide)]⟩)
theorem oSpend_24 {m x : Int32} : (oSpend (sI T 24 0 0) m x).1 24 0 = 0 := by
  rw [oSpend_1]
  exact (sI_f (by decide)).trans ((sI_f (by decide)).trans ((sI_f (by decide)).trans ((sI_f (by decide)).trans sI_s)))
theorem cTask_0 {u m w x : Int32} (hS : okN S) (h : cTask S u m w x = 0) : cl m < S.2 0 1 ∧ cl w < S.2 0 0 ∧ S.2 0 3 ≠ 60 ∧ inR x 0 10000 = true := by
  have h1 := hS.1
  have h2 := hS.2.1
  unfold cTask at h
  by_cases a : (inB u (S.2 0 0) && (inB m (S.2 0 1) && inB w (S.2 0 0))) = false
  · rw [if_pos a] at h; exact absurd h (by decide)
  · rw [if_neg a] at h
    have a := eq_true_of_ne_false a
    simp only [Bool.and_eq_true] at a
    by_cases b : inR x 0 10000 = false
    · rw [if_pos b] at h; exact absurd h (by decide)
    · rw [if_neg b] at h
      by_cases q : (!gone S (cl u) && (decide (S.1 8 (cl m) = 0) && decide (S.2 0 3 ≠ 60))) = false
      · rw [if_pos q] at h; exact absurd h (by decide)
      · have q := eq_true_of_ne_false q
        simp only [Bool.and_eq_true, decide_eq_true_eq] at q
        exact ⟨cl_in a.2.1 (by omega), cl_in a.2.2 (by omega), q.2.2, eq_true_of_ne_false b⟩
theorem t_task (h : Tie n S T) (u m w x : Int32) (hc : cTask S u m w x = 0) {cap : Nat} (hcap : capok (S.2 0 3) cap) : Tie (n + 1) (gT S m w x cap) (oTask (sI T 24 0 0) m w x) := by
  have P0 := h.1.t24 0
  obtain ⟨hE, hkd, hN, hL, hM, hG, hc4, hV, hB, h22⟩ := P0
  obtain ⟨hm9, hw9, hs9, hx9⟩ := cTask_0 hN hc
  obtain ⟨n1, n2, n3, n4, n5, n6, n7⟩ := hN
  have e1 : ∀ {f : Nat}, f ≠ 13 ∧ f ≠ 14 ∧ f ≠ 19 ∧ f ≠ 20 → (gT S m w x cap).1 f = S.1 f := gT_1
  have hk : kdS (gT S m w x cap) = kdS S := kdS_f (fun m => e1 (by omega))
  have g1x : (gT S m w x cap).1 = (sI (oTask S m w x) 19 4 (S.1 19 4 + 1)).1 := rfl
  have e13 : ∀ j, (gT S m w x cap).1 13 j = if j = S.2 0 3 then S.1 0 0 + x else S.1 13 j := by
    intro j
    rw [g1x, sI_f (by decide), oTask_1, sI_f (by decide)]
    by_cases e : j = S.2 0 3
    · rw [if_pos e, e, sI_s]
    · rw [if_neg e, sI_n e, sI_f (by decide)]
  have e20 : ∀ j, (gT S m w x cap).1 20 j = if j = S.2 0 3 then S.1 7 (cl m) else S.1 20 j := by
    intro j
    rw [g1x, sI_f (by decide), oTask_1, sI_f (by decide), sI_f (by decide)]
    by_cases e : j = S.2 0 3
    · rw [if_pos e, e, sI_s]
    · rw [if_neg e, sI_n e]
  have c0 : (gT S m w x cap).2 0 0 = S.2 0 0 := rfl
  have c1 : (gT S m w x cap).2 0 1 = S.2 0 1 := rfl
  have c2 : (gT S m w x cap).2 0 2 = S.2 0 2 := rfl
  have c3 : (gT S m w x cap).2 0 3 = S.2 0 3 + 1 := rfl
  have c4 : (gT S m w x cap).2 0 4 = S.2 0 4 := rfl
  have g1 : (gT S m w x cap).2 1 = S.2 1 := rfl
  have g2 : (gT S m w x cap).2 2 = S.2 2 := rfl
  have g3 : (gT S m w x cap).2 3 = S.2 3 := rfl
  have g4 : ∀ j, j ≠ S.2 0 3 → (gT S m w x cap).2 4 j = S.2 4 j := fun j hj => if_neg (fun z => hj z.2)
  have g5 : ∀ j, j ≠ S.2 0 3 → (gT S m w x cap).2 5 j = S.2 5 j := fun j hj => if_neg (fun z => hj z.2)
  have g4s : (gT S m w x cap).2 4 (S.2 0 3) = cl m := if_pos ⟨rfl, rfl⟩
  have g5s : (gT S m w x cap).2 5 (S.2 0 3) = cl w := if_pos ⟨rfl, rfl⟩
  have tt : ∀ f, f ≠ 20 → f ≠ 13 → f ≠ 14 → (oTask (sI T 24 0 0) m w x).1 f = (sI T 24 0 0).1 f := fun f a b c => by rw [oTask_1]; exact (sI_fn c).trans ((sI_fn b).trans (sI_fn a))
  have t7 := tt 7 (by decide) (by decide) (by decide)
  have t21 := tt 21 (by decide) (by decide) (by decide)
  have t22 := tt 22 (by decide) (by decide) (by decide)
  obtain ⟨⟨hh, hh1, hh2⟩, b7, b20, b13⟩ := hB
  obtain ⟨jx, hjx, rfl⟩ := inR_10k hx9
  refine ⟨⟨?_, fun a v hm hv => ?_, ?_, ?_, fun a v hm hv => ?_, hG.of (e1 (by decide)) (e1 (by decide)) (e1 (by decide)) c4 c1 hk, by rw [c4]; omega, hV.of (e1 (by decide)) (e1 (by decide)) (e1 (by decide)) (Nat.le_refl _), ⟨⟨hh, by omega, by rw [e1 (by decide)]; exact hh2⟩, fun j => ?_, fun j => ?_, fun j => ?_⟩, h22.of t22 t7⟩, fun k hk2 h12k => ?_⟩
  · unfold gT oTask
    rw [← hE.c (j := 3), ← hE.i (f := 7), ← hE.i (f := 0)]
    exact ((hE.nn.ii.nn.ii.ii.nn).ns (by decide)).is (by decide)
  · rw [hk, kdT_c t7 t21 t22]; exact hkd a v hm hv
  · refine ⟨n1, n2, n3, by rw [c3]; omega, n5, n6, fun j hj => ?_⟩
    by_cases e : j = S.2 0 3
    · rw [e, g4s, g5s, c1, c0]; exact ⟨hm9, hw9⟩
    · rw [g4 j e, g5 j e, c1, c0]; exact n7 j (by rw [c3] at hj; omega)
  · refine okL_of hL 4 (fun i hi h5 => ?_) cap (show S.2 0 3 + 1 ≤ cap from hcap.1) rfl hcap.2
    match i, h5 with
    | 0, _ => exact ⟨rfl, rfl⟩
    | 1, _ => exact ⟨rfl, rfl⟩
    | 2, _ => exact ⟨rfl, rfl⟩
    | 3, _ => exact ⟨rfl, rfl⟩
    | 4, _ => exact absurd rfl hi
  · rw [hk, c0]
    exact hM a v hm hv
  · rw [e1 (by decide)]; obtain ⟨v, q, r⟩ := b7 j; exact ⟨v, by omega, r⟩
  · rw [e20]
    split
    · obtain ⟨v, q, r⟩ := b7 (cl m); exact ⟨v, by omega, r⟩
    · obtain ⟨v, q, r⟩ := b20 j; exact ⟨v, by omega, r⟩
  · rw [e13]
    split
    · exact ⟨hh + jx, by omega, by rw [hh2]; exact nI_add _ _⟩
    · obtain ⟨v, q, r⟩ := b13 j; exact ⟨v, by omega, r⟩
  · have hd := h.2 k hk2 (by rw [← h12k, e1 (by decide)])
    rw [← hd]
    exact due_l (by rw [g3]) (by rw [e1 (by decide)]) (by rw [e1 (by decide)]) (by rw [e1 (by decide)]) (by rw [g1]) c0 (by rw [e1 (by decide)]) (fun v _ => ⟨by rw [hk], by rw [e1 (by decide)], by rw [e1 (by decide)]⟩)
theorem oTask_24 {m w x : Int32} : (oTask (sI T 24 0 0) m w x).1 24 0 = 0 := by
  rw [oTask_1]
  exact (sI_f (by decide)).trans ((sI_f (by decide)).trans ((sI_f (by decide)).trans sI_s))
end TIE4
/-! edit, mark: the log -/
theorem lgE_15 {S : kSt} {a b c : Int32} (j : Nat) : (lgE S a b c).1 15 j = if j = S.2 0 4 then a else S.1 15 j := by
  show (sI (sI (sI S 15 (S.2 0 4) a) 16 (S.2 0 4) b) 17 (S.2 0 4) c).1 15 j = _
  rw [sI_f (by decide), sI_f (by decide)]
  by_cases e : j = S.2 0 4
  · rw [if_pos e, e, sI_s]
  · rw [if_neg e, sI_n e]
theorem lgE_16 {S : kSt} {a b c : Int32} (j : Nat) : (lgE S a b c).1 16 j = if j = S.2 0 4 then b else S.1 16 j := by
  show (sI (sI (sI S 15 (S.2 0 4) a) 16 (S.2 0 4) b) 17 (S.2 0 4) c).1 16 j = _
  rw [sI_f (by decide)]
  by_cases e : j = S.2 0 4
  · rw [if_pos e, e, sI_s]
  · rw [if_neg e, sI_n e, sI_f (by decide)]
theorem lgE_17 {S : kSt} {a b c : Int32} (j : Nat) : (lgE S a b c).1 17 j = if j = S.2 0 4 then c else S.1 17 j := by
  show (sI (sI (sI S 15 (S.2 0 4) a) 16 (S.2 0 4) b) 17 (S.2 0 4) c).1 17 j = _
  by_cases e : j = S.2 0 4
  · rw [if_pos e, e, sI_s]
  · rw [if_neg e, sI_n e, sI_f (by decide), sI_f (by decide)]
theorem lgE_n4 {S : kSt} {a b c : Int32} : (lgE S a b c).2 0 4 = S.2 0 4 + 1 := by
  unfold lgE
  exact sN_s
theorem lgE_eq {S T : kSt} (h : eqR S T) {a b c : Int32} : eqR (lgE S a b c) T := (((h.is (by decide)).is (by decide)).is (by decide)).ns (by decide)
/-- one line more: the replay -/
theorem Lgr.line {S S' : kSt} {a b c : Int32} {m : Nat} (h : Lgr S) (hn : S.2 0 4 < 512) (hm : m < S.2 0 1) (hm2 : S.2 0 1 ≤ 80) (ha : a = nI m) (hb : c ≠ 2 → ∃ u, u < 12 ∧ b = nI u)
    (h15 : ∀ j, S'.1 15 j = if j = S.2 0 4 then a else S.1 15 j) (h16 : ∀ j, S'.1 16 j = if j = S.2 0 4 then b else S.1 16 j) (h17 : ∀ j, S'.1 17 j = if j = S.2 0 4 then c else S.1 17 j) (c4 : S'.2 0 4 = S.2 0 4 + 1) (c1 : S'.2 0 1 = S.2 0 1)
    (hk : ∀ a', a' ≠ m → kdS S' a' = kdS S a') (hkm : ∀ v, v < 12 → kdS S' m v = if c = 2 then -1 else upd (kdS S m) (cl b) c v) : Lgr S' := by
  obtain ⟨⟨f0, f1⟩, f2, f3⟩ := h
  refine ⟨⟨by rw [c4]; omega, fun i hi h2 => ?_⟩, fun i hi => ?_, fun b0 a' v ha' hv => ?_⟩
  · rw [c4] at hi
    rw [h17] at h2
    rw [h16]
    by_cases e : i = S.2 0 4
    · rw [if_pos e] at h2 ⊢; exact hb h2
    · rw [if_neg e] at h2 ⊢; exact f1 i (by omega) h2
  · rw [c4] at hi
    rw [h15, c1]
    by_cases e : i = S.2 0 4
    · rw [if_pos e]; exact ⟨m, hm, ha⟩
    · rw [if_neg e]; exact f2 i (by omega)
  · rw [c1] at ha'
    rw [c4]
    simp only [rpl]
    have hold : ∀ a9, rpl S' a9 b0 (S.2 0 4) = rpl S a9 b0 (S.2 0 4) := fun a9 => rpl_c (S := S) (S' := S') _ (fun i hi => by
      rw [h15, h16, h17, if_neg (Nat.ne_of_lt hi), if_neg (Nat.ne_of_lt hi), if_neg (Nat.ne_of_lt hi)]
      exact ⟨rfl, rfl, rfl⟩)
    rw [h15, h16, h17, if_pos rfl, if_pos rfl, if_pos rfl, hold, ha]
    by_cases e : a' = m
    · subst e
      rw [if_pos rfl, hkm v hv]
      by_cases q : c = 2
      · rw [if_pos q, if_pos q]; exact if_pos hv
      · rw [if_neg q, if_neg q]
        simp only [upd]
        split
        · rfl
        · exact f3 b0 a' v ha' hv
    · rw [if_neg (fun z => e ((nI_eq (by omega) (by omega)).mp z).symm), hk a' e]
      exact f3 b0 a' v ha' hv
section TIE5
variable {n : Nat} {S T : kSt}
theorem cEdit_0 {u m : Int32} (hS : okN S) (h : cEdit S u m = 0) : ∃ j, j < S.2 0 1 ∧ m = nI j := by
  have h2 := hS.2.1
  unfold cEdit at h
  by_cases a : (inB u (S.2 0 0) && inB m (S.2 0 1)) = false
  · rw [if_pos a] at h; exact absurd h (by decide)
  · have a := eq_true_of_ne_false a
    rw [Bool.and_eq_true] at a
    exact inB_of a.2 (by omega)
theorem drp_fn {S : kSt} {m k f : Nat} (h : f ≠ 14) : (drp S m k).1 f = S.1 f := funext fun j => (drp_r S m k).2.1 f j h
theorem pt_edit (h : PT n S T) (hn : n < 512) (u m : Int32) (hc : cEdit S u m = 0) : PT (n + 1) (oEdC S m) (oEd0 T m) := by
  obtain ⟨hE, hkd, hN, hL, hM, hG, hc4, hV, hB, h22⟩ := h
  obtain ⟨jm, hjm, rfl⟩ := cEdit_0 hN hc
  have n1 := hN.1
  have n2 := hN.2.1
  have hcm : cl (nI jm) = jm := cl_nI (by omega)
  unfold oEdC oEd0 oEd1
  rw [hcm]
  obtain ⟨d1, -, -⟩ := drp_r (lgE (sR (sI S 7 jm (S.1 7 jm + 1)) (100 + jm) 0 12 (-1)) (nI jm) (-1) 2) jm (S.2 0 3)
  have d2 : ∀ {f : Nat}, f ≠ 14 → (drp (lgE (sR (sI S 7 jm (S.1 7 jm + 1)) (100 + jm) 0 12 (-1)) (nI jm) (-1) 2) jm (S.2 0 3)).1 f = (lgE (sR (sI S 7 jm (S.1 7 jm + 1)) (100 + jm) 0 12 (-1)) (nI jm) (-1) 2).1 f := fun h => drp_fn h
  have eq0 : eqR (drp (lgE (sR (sI S 7 jm (S.1 7 jm + 1)) (100 + jm) 0 12 (-1)) (nI jm) (-1) 2) jm (S.2 0 3)) (drp (sI T 7 jm (T.1 7 jm + 1)) jm (T.2 0 3)) := by
    rw [← hE.c (j := 3), ← hE.i (f := 7)]
    exact drp_e (lgE_eq ((hE.ii).rs (fun z => by rcases z with z | z <;> omega))) jm (S.2 0 3)
  obtain ⟨v0, hv0, ev0⟩ := hB.2.1 jm
  generalize hA : drp (lgE (sR (sI S 7 jm (S.1 7 jm + 1)) (100 + jm) 0 12 (-1)) (nI jm) (-1) 2) jm (S.2 0 3) = A at *
  have x7 : ∀ j, A.1 7 j = if j = jm then S.1 7 jm + 1 else S.1 7 j := by
    intro j
    rw [d2 (by decide), lgE_1 (by decide), sR_fn (by omega)]
    by_cases e : j = jm
    · rw [if_pos e, e, sI_s]
    · rw [if_neg e, sI_n e]
  have xf : ∀ {f : Nat}, f ≠ 7 → f ≠ 14 → (f < 15 ∨ 18 ≤ f) → f < 100 → A.1 f = S.1 f := fun a b c d => by
    rw [d2 b, lgE_1 c, sR_fn (by omega), sI_fn a]
  have xk : ∀ a, a ≠ jm → kdS A a = kdS S a := fun a ha => by
    show A.1 (100 + a) = S.1 (100 + a)
    rw [d2 (by omega), lgE_1 (by omega), sR_fn (by omega), sI_fn (by omega)]
  have xkm : ∀ v, v < 12 → kdS A jm v = -1 := fun v hv => by
    show A.1 (100 + jm) v = -1
    rw [d2 (by omega), lgE_1 (by omega)]
    exact if_pos ⟨rfl, Nat.zero_le _, by omega⟩
  have c4 : A.2 0 4 = S.2 0 4 + 1 := by rw [d1, lgE_n4]; rfl
  have cc : ∀ f j, ¬ (f = 0 ∧ j = 4) → A.2 f j = S.2 f j := fun f j hf => by rw [d1, lgE_2 hf]; rfl
  have t7 : ∀ j, (drp (sI T 7 jm (T.1 7 jm + 1)) jm (T.2 0 3)).1 7 j = if j = jm then T.1 7 jm + 1 else T.1 7 j := by
    intro j
    rw [drp_fn (by decide)]
    by_cases e : j = jm
    · rw [if_pos e, e, sI_s]
    · rw [if_neg e, sI_n e]
  have t21 : (drp (sI T 7 jm (T.1 7 jm + 1)) jm (T.2 0 3)).1 21 = T.1 21 := (drp_fn (by decide)).trans (sI_fn (by decide))
  have t22 : (drp (sI T 7 jm (T.1 7 jm + 1)) jm (T.2 0 3)).1 22 = T.1 22 := (drp_fn (by decide)).trans (sI_fn (by decide))
  have eT7 : T.1 7 jm = nI v0 := by rw [← hE.i (f := 7)]; exact ev0
  have hlt : T.1 7 jm < T.1 7 jm + 1 := by rw [eT7, nI_1]; exact (nI_ltI (by omega) (by omega)).mpr (by omega)
  refine ⟨eq0, fun a v hm hv => ?_, ?_, ?_, fun a v hm hv => ?_, ?_, by rw [c4]; omega, ⟨?_, ?_, fun j hj => ?_⟩, ⟨?_, fun j => ?_, fun j => ?_, fun j => ?_⟩, fun a v hv => ?_⟩
  · rw [cc 0 1 (by decide)] at hm
    by_cases e : a = jm
    · subst e
      rw [xkm v hv]
      unfold kdT
      rw [t7, if_pos rfl, t21, t22]
      have := h22 a v hv
      rw [if_neg (fun z => by rw [z] at this; exact Int32.lt_irrefl (Int32.lt_of_le_of_lt this hlt))]
    · rw [xk a e]
      unfold kdT
      rw [t7, if_neg e, t21, t22]
      exact hkd a v hm hv
  · unfold okN
    have q : ∀ f, 0 < f → A.2 f = S.2 f := fun f hf => funext fun j => cc f j (by omega)
    rw [cc 0 0 (by decide), cc 0 1 (by decide), cc 0 2 (by decide), cc 0 3 (by decide), q 1 (by decide), q 2 (by decide), q 3 (by decide), q 4 (by decide), q 5 (by decide)]
    exact hN
  · have ql : lcnt A = lcnt S := by
      funext li
      unfold lcnt
      rw [cc 0 0 (by decide), cc 0 1 (by decide), cc 0 2 (by decide), cc 0 3 (by decide)]
    unfold okL
    rw [ql]
    intro li hli
    rw [cc 6 li (by omega)]
    exact hL li hli
  · rw [cc 0 1 (by decide)] at hm
    rw [cc 0 0 (by decide)]
    by_cases e : a = jm
    · subst e; rw [xkm v hv]; exact ⟨Or.inl rfl, fun _ => rfl⟩
    · rw [xk a e]; exact hM a v hm hv
  · refine hG.line (a := nI jm) (b := -1) (c := 2) (by omega) hjm n2 rfl (fun z => absurd rfl z) (fun j => ?_) (fun j => ?_) (fun j => ?_) c4 (cc 0 1 (by decide)) xk (fun v hv => by rw [if_pos rfl]; exact xkm v hv)
    · rw [d2 (by decide), lgE_15, sR_fn (by omega), sI_fn (by decide)]; rfl
    · rw [d2 (by decide), lgE_16, sR_fn (by omega), sI_fn (by decide)]; rfl
    · rw [d2 (by decide), lgE_17, sR_fn (by omega), sI_fn (by decide)]; rfl
  · rw [xf (by decide) (by decide) (by decide) (by decide)]; exact hV.1
  · rw [xf (by decide) (by decide) (by decide) (by decide)]; exact hV.2.1
  · rw [cc 0 1 (by decide)] at hj
    rw [x7, if_neg (by omega), xf (by decide) (by decide) (by decide) (by decide)]
    exact hV.2.2 j hj
  · obtain ⟨q, a, b⟩ := hB.1; rw [xf (by decide) (by decide) (by decide) (by decide)]; exact ⟨q, by omega, b⟩
  · rw [x7]
    split
    · exact ⟨v0 + 1, by omega, by rw [ev0, nI_1]⟩
    · obtain ⟨q, a, b⟩ := hB.2.1 j; exact ⟨q, by omega, b⟩
  · obtain ⟨q, a, b⟩ := hB.2.2.1 j; rw [xf (by decide) (by decide) (by decide) (by decide)]; exact ⟨q, by omega, b⟩
  · obtain ⟨q, a, b⟩ := hB.2.2.2 j; rw [xf (by decide) (by decide) (by decide) (by decide)]; exact ⟨q, by omega, b⟩
  · rw [t22, t7]
    by_cases e : a = jm
    · subst e; rw [if_pos rfl]; exact Int32.le_of_lt (Int32.lt_of_le_of_lt (h22 a v hv) hlt)
    · rw [if_neg e]; exact h22 a v hv
theorem t_edit (h : Tie n S T) (hn : n < 512) (u m : Int32) (hc : cEdit S u m = 0) : Tie (n + 1) (oEditC S m) (oEditM (sI T 24 0 0) m) ∧ (oEditM (sI T 24 0 0) m).1 24 0 = 0 ∧ S.1 7 (cl m) + 1 = T.1 7 (cl m) + 1 := by
  have P := (pt_edit (h.1.t24 0) hn u m hc).set
  have e1 : (oEdC S m).2 0 2 = S.2 0 2 := by unfold oEdC; rw [(drp_r _ _ _).1, lgE_2 (by decide)]; rfl
  have e2 : (oEd0 (sI T 24 0 0) m).2 0 2 = (sI T 24 0 0).2 0 2 := by unfold oEd0; rw [(drp_r _ _ _).1]; rfl
  rw [e1, e2] at P
  refine ⟨P, ?_, by rw [h.1.1.i (f := 7)]⟩
  unfold oEditM
  rw [stl_24]
  unfold oEd0
  rw [drp_fn (by decide)]
  exact (sI_f (by decide)).trans sI_s
theorem cMark_0 {kd : Nat → Nat → Int32} {u m x : Int32} (hS : okN S) (h : cMark S kd u m x = 0) : (∃ j, j < S.2 0 0 ∧ u = nI j) ∧ (∃ j, j < S.2 0 1 ∧ m = nI j) ∧ inR x (-1) 1 = true := by
  have h1 := hS.1
  have h2 := hS.2.1
  unfold cMark at h
  by_cases a : (inB u (S.2 0 0) && inB m (S.2 0 1)) = false
  · rw [if_pos a] at h; exact absurd h (by decide)
  · rw [if_neg a] at h
    have a := eq_true_of_ne_false a
    rw [Bool.and_eq_true] at a
    by_cases b : inR x (-1) 1 = false
    · rw [if_pos b] at h; exact absurd h (by decide)
    · exact ⟨inB_of a.1 (by omega), inB_of a.2 (by omega), eq_true_of_ne_false b⟩
theorem pt_mark (h : PT n S T) (hn : n < 512) (u m x : Int32) (hc : cMark S (kdS S) u m x = 0) : PT (n + 1) (oMkC S u m x) (oMk0 T u m x) := by
  obtain ⟨hE, hkd, hN, hL, hM, hG, hc4, hV, hB, h22⟩ := h
  obtain ⟨⟨ju, hju, rfl⟩, ⟨jm, hjm, rfl⟩, hx⟩ := cMark_0 hN hc
  have hx := inR_3 hx
  have n1 := hN.1
  have n2 := hN.2.1
  unfold oMkC oMk0
  rw [cl_nI (show jm < 2 ^ 31 by omega), cl_nI (show ju < 2 ^ 31 by omega)]
  have xf : ∀ {f : Nat}, (f < 15 ∨ 18 ≤ f) → f < 100 → (lgE (sI S (100 + jm) ju x) (nI jm) (nI ju) x).1 f = S.1 f := fun c d => by
    rw [lgE_1 c, sI_fn (by omega)]
  have xk : ∀ a, a ≠ jm → kdS (lgE (sI S (100 + jm) ju x) (nI jm) (nI ju) x) a = kdS S a := fun a ha => by
    show (lgE (sI S (100 + jm) ju x) (nI jm) (nI ju) x).1 (100 + a) = S.1 (100 + a)
    rw [lgE_1 (by omega), sI_fn (by omega)]
  have xkm : ∀ v, kdS (lgE (sI S (100 + jm) ju x) (nI jm) (nI ju) x) jm v = if v = ju then x else kdS S jm v := fun v => by
    show (lgE (sI S (100 + jm) ju x) (nI jm) (nI ju) x).1 (100 + jm) v = _
    rw [lgE_1 (by omega)]
    by_cases e : v = ju
    · rw [if_pos e, e, sI_s]
    · rw [if_neg e, sI_n e]; rfl
  have c4 : (lgE (sI S (100 + jm) ju x) (nI jm) (nI ju) x).2 0 4 = S.2 0 4 + 1 := lgE_n4
  have cc : ∀ f j, ¬ (f = 0 ∧ j = 4) → (lgE (sI S (100 + jm) ju x) (nI jm) (nI ju) x).2 f j = S.2 f j := fun f j hf => by rw [lgE_2 hf]; rfl
  have t7 : (sI (sI T 21 (12 * jm + ju) x) 22 (12 * jm + ju) (T.1 7 jm)).1 7 = T.1 7 := (sI_fn (by decide)).trans (sI_fn (by decide))
  have t21 : ∀ j, (sI (sI T 21 (12 * jm + ju) x) 22 (12 * jm + ju) (T.1 7 jm)).1 21 j = if j = 12 * jm + ju then x else T.1 21 j := by
    intro j
    rw [sI_f (by decide)]
    by_cases e : j = 12 * jm + ju
    · rw [if_pos e, e, sI_s]
    · rw [if_neg e, sI_n e]
  have t22 : ∀ j, (sI (sI T 21 (12 * jm + ju) x) 22 (12 * jm + ju) (T.1 7 jm)).1 22 j = if j = 12 * jm + ju then T.1 7 jm else T.1 22 j := by
    intro j
    by_cases e : j = 12 * jm + ju
    · rw [if_pos e, e, sI_s]
    · rw [if_neg e, sI_n e, sI_f (by decide)]
  refine ⟨((lgE_eq (hE.is (fun z => by rcases z with z | z <;> omega))).it (by decide)).it (by decide), fun a v hm hv => ?_, ?_, ?_, fun a v hm hv => ?_, ?_, by rw [c4]; omega, ⟨?_, ?_, fun j hj => ?_⟩, ⟨?_, fun j => ?_, fun j => ?_, fun j => ?_⟩, fun a v hv => ?_⟩
  · rw [cc 0 1 (by decide)] at hm
    by_cases e : a = jm
    · subst e
      rw [xkm v]
      unfold kdT
      rw [t7, t21, t22]
      by_cases q : v = ju
      · subst q; simp
      · have e1 : ¬ 12 * a + v = 12 * a + ju := by omega
        simp only [if_neg q, if_neg e1]
        exact hkd a v hm hv
    · rw [xk a e]
      unfold kdT
      have e1 : ¬ 12 * a + v = 12 * jm + ju := by omega
      rw [t7, t21, t22]
      simp only [if_neg e1]
      exact hkd a v hm hv
  · unfold okN
    have q : ∀ f, 0 < f → (lgE (sI S (100 + jm) ju x) (nI jm) (nI ju) x).2 f = S.2 f := fun f hf => funext fun j => cc f j (by omega)
    rw [cc 0 0 (by decide), cc 0 1 (by decide), cc 0 2 (by decide), cc 0 3 (by decide), q 1 (by decide), q 2 (by decide), q 3 (by decide), q 4 (by decide), q 5 (by decide)]
    exact hN
  · have ql : lcnt (lgE (sI S (100 + jm) ju x) (nI jm) (nI ju) x) = lcnt S := by
      funext li
      unfold lcnt
      rw [cc 0 0 (by decide), cc 0 1 (by decide), cc 0 2 (by decide), cc 0 3 (by decide)]
    unfold okL
    rw [ql]
    intro li hli
    rw [cc 6 li (by omega)]
    exact hL li hli
  · rw [cc 0 1 (by decide)] at hm
    rw [cc 0 0 (by decide)]
    by_cases e : a = jm
    · subst e
      rw [xkm v]
      by_cases q : v = ju
      · rw [if_pos q]; exact ⟨hx, fun z => by omega⟩
      · rw [if_neg q]; exact hM a v hm hv
    · rw [xk a e]; exact hM a v hm hv
  · refine hG.line (a := nI jm) (b := nI ju) (c := x) (by omega) hjm n2 rfl (fun _ => ⟨ju, by omega, rfl⟩) (fun j => ?_) (fun j => ?_) (fun j => ?_) c4 (cc 0 1 (by decide)) xk (fun v hv => ?_)
    · rw [lgE_15, sI_fn (by omega)]; rfl
    · rw [lgE_16, sI_fn (by omega)]; rfl
    · rw [lgE_17, sI_fn (by omega)]; rfl
    · rw [if_neg (by rcases hx with rfl | rfl | rfl <;> decide), xkm v, cl_nI (by omega)]
      rfl
  · rw [xf (by decide) (by decide)]; exact hV.1
  · rw [xf (by decide) (by decide)]; exact hV.2.1
  · rw [cc 0 1 (by decide)] at hj
    rw [xf (by decide) (by decide), xf (by decide) (by decide)]
    exact hV.2.2 j hj
  · obtain ⟨q, a, b⟩ := hB.1; rw [xf (by decide) (by decide)]; exact ⟨q, by omega, b⟩
  · obtain ⟨q, a, b⟩ := hB.2.1 j; rw [xf (by decide) (by decide)]; exact ⟨q, by omega, b⟩
  · obtain ⟨q, a, b⟩ := hB.2.2.1 j; rw [xf (by decide) (by decide)]; exact ⟨q, by omega, b⟩
  · obtain ⟨q, a, b⟩ := hB.2.2.2 j; rw [xf (by decide) (by decide)]; exact ⟨q, by omega, b⟩
  · rw [t22, t7]
    split
    · rename_i e
      rw [show a = jm by omega]
      exact Int32.le_refl _
    · exact h22 a v hv
theorem t_mark (h : Tie n S T) (hn : n < 512) (u m x : Int32) (hc : cMark S (kdS S) u m x = 0) : Tie (n + 1) (oMarkC S u m x) (oMarkM (sI T 24 0 0) u m x) ∧ (oMarkM (sI T 24 0 0) u m x).1 24 0 = 0 ∧ nI (cntN (oMarkC S u m x) (kdS (oMarkC S u m x) (cl m)) (S.2 0 0)) = nI (cntN (oMarkM (sI T 24 0 0) u m x) (kdT (oMarkM (sI T 24 0 0) u m x) (cl m)) (T.2 0 0)) := by
  have P := (pt_mark (h.1.t24 0) hn u m x hc).set
  have e1 : (oMkC S u m x).2 0 2 = S.2 0 2 := by unfold oMkC; rw [lgE_2 (by decide)]; rfl
  have e2 : (oMk0 (sI T 24 0 0) u m x).2 0 2 = (sI T 24 0 0).2 0 2 := rfl
  rw [e1, e2] at P
  have P : Tie (n + 1) (oMarkC S u m x) (oMarkM (sI T 24 0 0) u m x) := P
  refine ⟨P, ?_, ?_⟩
  · unfold oMarkM
    rw [stl_24]
    unfold oMk0
    exact (sI_f (by decide)).trans ((sI_f (by decide)).trans sI_s)
  · obtain ⟨-, ⟨jm, hjm, rfl⟩, -⟩ := cMark_0 h.1.2.2.1 hc
    have n1 := h.1.2.2.1.1
    have n2 := h.1.2.2.1.2.1
    rw [cl_nI (show jm < 2 ^ 31 by omega)]
    have e3 : (oMarkC S u (nI jm) x).2 0 1 = S.2 0 1 := by unfold oMarkC; rw [(stl_r _ _ _).1]; unfold oMkC; rw [lgE_2 (by decide)]; rfl
    rw [← h.1.1.c (j := 0)]
    exact congrArg nI (cntN_e P.1.1 (fun v hv => P.1.2.1 jm v (by rw [e3]; exact hjm) (by omega)))
end TIE5
/-! next, label, isApproved, the start -/
section TIE6
variable {n : Nat} {S T : kSt}
theorem opn_e (h : eqR S T) (u k : Nat) : opn S u k = opn T u k := by unfold opn; rw [h.n (f := 5), h.i (f := 14)]
theorem ahead_e (h : eqR S T) (t k : Nat) : ahead S t k = ahead T t k := by unfold ahead; rw [h.i (f := 13)]
theorem rnk_e (h : eqR S T) (u t : Nat) : ∀ k, rnk S u t k = rnk T u t k
  | 0 => rfl
  | k + 1 => by simp only [rnk, rnk_e h u t k, opn_e h, ahead_e h]
theorem nxt_e (h : eqR S T) (u : Nat) (r : Int32) : ∀ k, nxt S u r k = nxt T u r k
  | 0 => rfl
  | k + 1 => by
    simp only [nxt, nxt_e h u r k, h.c (j := 3), rnk_e h, opn_e h]
theorem rnk_le (u t : Nat) : ∀ k, rnk S u t k ≤ k
  | 0 => Nat.le_refl _
  | k + 1 => by have := rnk_le u t k; simp only [rnk]; split <;> omega
theorem rnk_lt {u t t' : Nat} (hs : ∀ j, ahead S t' j = true → ahead S t j = true) (h1 : opn S u t' = true) (h2 : ahead S t t' = true) (h3 : ahead S t' t' = false) : ∀ k, rnk S u t' k ≤ rnk S u t k ∧ (t' < k → rnk S u t' k < rnk S u t k)
  | 0 => ⟨Nat.le_refl _, fun h => absurd h (Nat.not_lt_zero _)⟩
  | k + 1 => by
    obtain ⟨i1, i2⟩ := rnk_lt hs h1 h2 h3 k
    simp only [rnk]
    by_cases e : t' = k
    · subst e
      rw [h1, h2, h3]
      simp only [Bool.and_false, Bool.and_true, if_true]
      rw [if_neg (by decide)]
      exact ⟨by omega, fun _ => by omega⟩
    · by_cases q : (opn S u k && ahead S t' k) = true
      · have q2 : (opn S u k && ahead S t k) = true := by
          rw [Bool.and_eq_true] at q ⊢
          exact ⟨q.1, hs k q.2⟩
        rw [if_pos q, if_pos q2]
        exact ⟨by omega, fun h => by have := i2 (by omega); omega⟩
      · rw [if_neg q]
        exact ⟨by split <;> omega, fun h => by have := i2 (by omega); split <;> omega⟩
theorem ahead_i {t : Nat} : ahead S t t = false := by
  simp only [ahead, Nat.lt_irrefl, decide_false, Bool.and_false, Bool.or_false, decide_eq_false_iff_not]
  exact fun h => Int32.lt_irrefl h
theorem ahead_tr {a b j : Nat} (h : ahead S a b = true) (h2 : ahead S b j = true) : ahead S a j = true := by
  simp only [ahead, Bool.or_eq_true, Bool.and_eq_true, decide_eq_true_eq, Int32.lt_iff_toInt_lt, ← Int32.toInt_inj] at h h2 ⊢
  omega
theorem ahead_tot {a b : Nat} (h : a ≠ b) : ahead S a b = true ∨ ahead S b a = true := by
  simp only [ahead, Bool.or_eq_true, Bool.and_eq_true, decide_eq_true_eq, Int32.lt_iff_toInt_lt, ← Int32.toInt_inj]
  omega
theorem hit_u {u a b : Nat} {r : Int32} (hN : S.2 0 3 ≤ 60) (ha : a < S.2 0 3) (hb : b < S.2 0 3) (h1 : hit S u r a = true) (h2 : hit S u r b = true) : a = b := by
  simp only [hit, Bool.and_eq_true, decide_eq_true_eq] at h1 h2
  have l1 := rnk_le (S := S) u a (S.2 0 3)
  have l2 := rnk_le (S := S) u b (S.2 0 3)
  have e := (nI_eq (by omega) (by omega)).mp (h1.2.trans h2.2.symm)
  by_cases q : a = b
  · exact q
  · rcases ahead_tot (S := S) q with z | z
    · have := (rnk_lt (fun j hj => ahead_tr z hj) h2.1 z ahead_i (S.2 0 3)).2 hb; omega
    · have := (rnk_lt (fun j hj => ahead_tr z hj) h1.1 z ahead_i (S.2 0 3)).2 ha; omega
theorem nxtC_c (u : Nat) (r : Int32) : ∀ k, k < 2 ^ 31 → (∃ j, j < k ∧ hit S u r j = true ∧ nxtC S u r k = nI j) ∨ ((∀ j, j < k → hit S u r j = false) ∧ nxtC S u r k = -1)
  | 0, _ => Or.inr ⟨fun j hj => absurd hj (Nat.not_lt_zero _), rfl⟩
  | k + 1, hk => by
    simp only [nxtC]
    rcases nxtC_c u r k (by omega) with ⟨j, a, b, c⟩ | ⟨a, b⟩
    · exact Or.inl ⟨j, by omega, b, by rw [c, if_pos (nI_m1 (by omega))]⟩
    · rw [b, if_neg (by decide)]
      by_cases q : hit S u r k = true
      · rw [if_pos q]; exact Or.inl ⟨k, by omega, q, rfl⟩
      · rw [if_neg q]
        refine Or.inr ⟨fun j hj => ?_, rfl⟩
        by_cases e : j = k
        · rw [e]; exact eq_false_of_ne_true q
        · exact a j (by omega)
theorem nxt_c (u : Nat) (r : Int32) : ∀ k, (∃ j, j < k ∧ hit S u r j = true ∧ nxt S u r k = nI j) ∨ ((∀ j, j < k → hit S u r j = false) ∧ nxt S u r k = -1)
  | 0 => Or.inr ⟨fun j hj => absurd hj (Nat.not_lt_zero _), rfl⟩
  | k + 1 => by
    rw [show nxt S u r (k + 1) = if hit S u r k = true then nI k else nxt S u r k from rfl]
    by_cases q : hit S u r k = true
    · exact Or.inl ⟨k, by omega, q, if_pos q⟩
    · rw [if_neg q]
      rcases nxt_c u r k with ⟨j, a, b, c⟩ | ⟨a, b⟩
      · exact Or.inl ⟨j, by omega, b, c⟩
      · refine Or.inr ⟨fun j hj => ?_, b⟩
        by_cases e : j = k
        · rw [e]; exact eq_false_of_ne_true q
        · exact a j (by omega)
theorem t_next (h : Tie n S T) (u : Nat) (r : Int32) : nxtC S u r (S.2 0 3) = nxt T u r (T.2 0 3) := by
  have hN := h.1.2.2.1.2.2.2.1
  rw [← h.1.1.c (j := 3), ← nxt_e h.1.1]
  rcases nxtC_c (S := S) u r (S.2 0 3) (by omega) with ⟨j, a, b, c⟩ | ⟨a, b⟩ <;> rcases nxt_c (S := S) u r (S.2 0 3) with ⟨j', a', b', c'⟩ | ⟨a', b'⟩
  · rw [c, c', hit_u hN a a' b b']
  · rw [a' j a] at b; cases b
  · rw [a j' a'] at b'; cases b'
  · rw [b, b']
theorem t_label (h : Tie n S T) (t p : Int32) : rLabel S t p = rLabel T t p := by unfold rLabel; rw [lab_e h.1.1]
theorem PT.mvT (h : PT n S T) {T1 : kSt} (h1 : ∀ f j, f ≠ 23 → f ≠ 24 → T1.1 f j = T.1 f j) (h2 : ∀ f j, ¬ (f = 0 ∧ j = 5) → T1.2 f j = T.2 f j) : PT n S T1 := by
  have e : ∀ {f : Nat}, f ≠ 23 → f ≠ 24 → T1.1 f = T.1 f := fun a b => funext fun j => h1 _ j a b
  obtain ⟨a, b, c⟩ := h
  refine ⟨⟨fun f j hf => ?_, fun f j hf => ?_⟩, fun m u hm hu => ?_, c.1, c.2.1, c.2.2.1, c.2.2.2.1, c.2.2.2.2.1, c.2.2.2.2.2.1, c.2.2.2.2.2.2.1, c.2.2.2.2.2.2.2.of (e (by decide) (by decide)) (e (by decide) (by decide))⟩
  · rw [h1 f j (by rcases hf with z | z <;> omega) (by rcases hf with z | z <;> omega)]; exact a.1 f j hf
  · rw [h2 f j (by rcases hf with z | z <;> omega)]; exact a.2 f j hf
  · rw [kdT_c (T := T) (T' := T1) (e (by decide) (by decide)) (e (by decide) (by decide)) (e (by decide) (by decide))]; exact b m u hm hu
theorem Tie.mvT (h : Tie n S T) {T1 : kSt} (h1 : ∀ f j, f ≠ 23 → f ≠ 24 → T1.1 f j = T.1 f j) (h2 : ∀ f j, ¬ (f = 0 ∧ j = 5) → T1.2 f j = T.2 f j) : Tie n S T1 := ⟨h.1.mvT h1 h2, h.2⟩
theorem Tie.s18 (h : Tie n S T) (g : Nat → Int32) : Tie n (sF S 18 g) T := by
  have e : ∀ {f : Nat}, f ≠ 18 → (sF S 18 g).1 f = S.1 f := fun a => sF_fn a
  have hk : kdS (sF S 18 g) = kdS S := kdS_f (fun m => e (by omega))
  exact ⟨h.1.easy (S' := sF S 18 g) rfl hk (e (by decide)) (e (by decide)) (e (by decide)) rfl rfl rfl (h.1.1.fs (by decide)) (h.1.2.2.2.2.2.2.2.1.of (e (by decide)) (e (by decide)) (e (by decide)) (Nat.le_refl _)) (Nat.le_refl _) (h.1.2.2.2.2.2.2.2.2.1.of (by rw [e (by decide)]) (e (by decide)) (e (by decide)) (e (by decide))), h.2.of rfl hk (e (by decide)) (e (by decide)) (e (by decide)) (e (by decide)) (e (by decide)) (e (by decide)) (e (by decide))⟩
theorem t_appr (h : Tie n S T) (m x k : Int32) (hc : cAppr S m x = 0) : Tie (n + 1) (oAprC S m k) (sI T 24 0 0) ∧ bI (rAprC S m x k) = bI (rAppr T (kdT T) m x) := by
  have n1 := h.1.2.2.1.1
  have n2 := h.1.2.2.1.2.1
  have hm : cl m < S.2 0 1 := by
    unfold cAppr at hc
    by_cases a : inB m (S.2 0 1) = false
    · rw [if_pos a] at hc; exact absurd hc (by decide)
    · exact cl_in (eq_true_of_ne_false a) (by omega)
  refine ⟨?_, ?_⟩
  · unfold oAprC
    split
    · exact (h.t24 0).up (Nat.le_succ n)
    · exact ((h.t24 0).s18 _).up (Nat.le_succ n)
  · unfold rAprC rAppr
    rw [← h.1.1.n (f := 1), ← h.1.1.c (j := 0)]
    refine congrArg bI (appr_e h.1.1 (fun u hu => ?_))
    split
    · exact h.1.2.1 (cl m) u hm (by omega)
    · rw [h.1.2.2.2.2.2.1.2.2 _ (cl m) u hm (by omega)]
      exact h.1.2.1 (cl m) u hm (by omega)
theorem t_msgOf (h : Tie n S T) (m w : Int32) (hc : cMsgOf S m w = 0) : rMsgOf S (kdS S) m w = rMsgOf T (kdT T) m w := by
  have n1 := h.1.2.2.1.1
  have n2 := h.1.2.2.1.2.1
  have hm : cl m < S.2 0 1 := by
    unfold cMsgOf at hc
    by_cases a : inB m (S.2 0 1) = false
    · rw [if_pos a] at hc; exact absurd hc (by decide)
    · exact cl_in (eq_true_of_ne_false a) (by omega)
  exact rMsgOf_e h.1.1 m w (fun u hu => h.1.2.1 (cl m) u hm (by omega))
theorem tie_0 {cap : Nat} (hcap : capok 5 cap) : Tie 0 (kS0 cap) kT0 := by
  have z1 : ∀ {f : Nat}, f ≠ 18 → f ≠ 19 → (kS0 cap).1 f = fun _ => 0 := fun a b => by
    funext j
    simp only [kS0]
    rw [if_neg b, if_neg a]
  have z2 : ∀ {f j : Nat}, ¬ (f = 6 ∧ j = 0) → (kS0 cap).2 f j = 0 := fun a => if_neg a
  have c0 : (kS0 cap).2 0 0 = 0 := z2 (by decide)
  have c1 : (kS0 cap).2 0 1 = 0 := z2 (by decide)
  have c2 : (kS0 cap).2 0 2 = 0 := z2 (by decide)
  have c3 : (kS0 cap).2 0 3 = 0 := z2 (by decide)
  have c4 : (kS0 cap).2 0 4 = 0 := z2 (by decide)
  refine ⟨⟨⟨fun f j hf => ?_, fun f j hf => ?_⟩, fun m u hm hu => ?_, ?_, fun li hli => ?_, fun m u hm hu => ?_, ⟨⟨by omega, fun i hi => ?_⟩, fun i hi => ?_, fun b m u hm hu => ?_⟩, by omega, ⟨fun j => ?_, fun j => ?_, fun j hj => ?_⟩, ⟨⟨0, by omega, ?_⟩, fun j => ⟨0, by omega, ?_⟩, fun j => ⟨0, by omega, ?_⟩, fun j => ⟨0, by omega, ?_⟩⟩, fun m u hu => Int32.le_refl _⟩, fun k hk => ?_⟩
  · rw [z1 (by rcases hf with z | z <;> omega) (by rcases hf with z | z <;> omega)]; rfl
  · rw [z2 (by rcases hf with z | z <;> omega)]; rfl
  · omega
  · exact ⟨by omega, by omega, by omega, by omega, fun j hj => by omega, fun j hj => by omega, fun j hj => by omega⟩
  · match li, hli with
    | 0, _ =>
      obtain ⟨q1, q2, q3⟩ := hcap
      have e : (kS0 cap).2 6 0 = cap := by simp [kS0]
      rw [e]
      exact ⟨show 6 ≤ cap by omega, q3, Or.inr q2⟩
    | 1, _ => exact ⟨show (kS0 cap).2 0 0 ≤ _ by omega, by rw [z2 (by decide)]; omega, Or.inl (z2 (by decide))⟩
    | 2, _ => exact ⟨show (kS0 cap).2 0 1 ≤ _ by omega, by rw [z2 (by decide)]; omega, Or.inl (z2 (by decide))⟩
    | 3, _ => exact ⟨show (kS0 cap).2 0 2 ≤ _ by omega, by rw [z2 (by decide)]; omega, Or.inl (z2 (by decide))⟩
    | 4, _ => exact ⟨show (kS0 cap).2 0 3 ≤ _ by omega, by rw [z2 (by decide)]; omega, Or.inl (z2 (by decide))⟩
  · omega
  · omega
  · omega
  · omega
  · rw [z1 (by decide) (by decide)]; exact Or.inl rfl
  · rw [z1 (by decide) (by decide)]; exact Or.inl rfl
  · rw [z1 (by decide) (by decide), z1 (by decide) (by decide)]; exact ⟨rfl, rfl⟩
  · rw [z1 (by decide) (by decide)]; rfl
  · rw [z1 (by decide) (by decide)]; rfl
  · rw [z1 (by decide) (by decide)]; rfl
  · rw [z1 (by decide) (by decide)]; rfl
  · omega
end TIE6
