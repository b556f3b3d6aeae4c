/-! WHAT THE LAW KEEPS: sums, the invariant, what the class answers in words of the state -/
def spS (S : kSt) : Nat → Int32
  | 0 => 0
  | k + 1 => spS S k + (if S.1 12 k = 0 then S.1 11 k else 0)
def chS (S : kSt) : Nat → Int32
  | 0 => 0
  | k + 1 => chS S k + S.1 3 k
def totC (S : kSt) (k : Nat) : Int32 := spS S (S.2 0 2) + chS S k
def tot (S : kSt) : Int32 := totC S 6
theorem totC_s {S : kSt} {k : Nat} : totC S k + S.1 3 k = totC S (k + 1) := Int32.add_assoc _ _ _
theorem totC_0 {S : kSt} : spS S (S.2 0 2) = totC S 0 := (Int32.add_zero _).symm
def Inv (n : Nat) (S A : kSt) : Prop := (∃ T, Tie n S T) ∧ LT S A ∧ A.1 11 5 = tot S
theorem Inv.up {n k : Nat} {S A : kSt} (h : Inv n S A) (hk : n ≤ k) : Inv k S A := ⟨⟨h.1.choose, h.1.choose_spec.up hk⟩, h.2⟩
theorem Inv.ok {n : Nat} {S A : kSt} (h : Inv n S A) : okN S ∧ okL S ∧ okK S ∧ okLg S ∧ (∀ m, m < S.2 0 1 → ∀ u, u < 12 → rpl S m (S.1 18) (S.2 0 4) u = kdS S m u) ∧ S.2 0 4 ≤ n ∧ Bds n S := by
  obtain ⟨⟨T, ⟨-, -, h3, h4, h5, h6, h7, -, h9, -⟩, -⟩, -, -⟩ := h
  exact ⟨h3, h4, fun a u ha hu => (h5 a u ha hu).1, h6.1, fun m hm u hu => h6.2.2 _ m u hm hu, h7, h9⟩
theorem spS_c {S S' : kSt} (h12 : S'.1 12 = S.1 12) (h11 : S'.1 11 = S.1 11) : ∀ k, spS S' k = spS S k
  | 0 => rfl
  | k + 1 => by simp only [spS, spS_c h12 h11 k, h12, h11]
theorem chS_c {S S' : kSt} (h3 : S'.1 3 = S.1 3) : ∀ k, chS S' k = chS S k
  | 0 => rfl
  | k + 1 => by simp only [chS, chS_c h3 k, h3]
theorem tot_c {S S' : kSt} (n : S'.2 0 2 = S.2 0 2) (h3 : S'.1 3 = S.1 3) (h11 : S'.1 11 = S.1 11) (h12 : S'.1 12 = S.1 12) : tot S' = tot S := by
  unfold tot totC
  rw [n, spS_c h12 h11, chS_c h3]
theorem LT.s18 {M A : kSt} (h : LT M A) (g : Nat → Int32) : LT (sF M 18 g) A := by
  obtain ⟨hg, hn, hu, hm, hz, hb, hs, ht⟩ := h
  exact ⟨hg, hn, hu.c rfl (sF_fn (by decide)) (sF_fn (by decide)) rfl, hm.c rfl rfl rfl (sF_fn (by decide)) (sF_fn (by decide)) (sF_fn (by decide)) (sF_fn (by decide)) (kdS_f (fun m => sF_fn (by omega))) rfl rfl rfl rfl, hz.c (Nat.le_refl _) rfl rfl, hb.c (sF_fn (by decide)) (sF_fn (by decide)) rfl, hs.c rfl rfl (sF_fn (by decide)) (sF_fn (by decide)) (sF_fn (by decide)) rfl rfl, ht.c rfl rfl rfl (sF_fn (by decide)) (sF_fn (by decide)) (sF_fn (by decide)) rfl rfl⟩
theorem Inv.s18 {n : Nat} {S A : kSt} (h : Inv n S A) (g : Nat → Int32) : Inv n (sF S 18 g) A := by
  obtain ⟨⟨T, h1⟩, h2, h3⟩ := h
  exact ⟨⟨T, h1.s18 g⟩, h2.s18 g, h3.trans (tot_c (S := S) (S' := sF S 18 g) rfl (sF_fn (by decide)) (sF_fn (by decide)) (sF_fn (by decide))).symm⟩
section RMS
variable {S : kSt} {kd : Nat → Nat → Int32} {j : Nat}
theorem cl_n (h : j < 2 ^ 31) : cl (nI j) = j := nI_clamp h
theorem rM0 (h : j < 2 ^ 31) : rMsgOf S kd (nI j) 0 = nI (S.2 1 j) := by rw [rMsgOf, if_pos rfl, cl_n h]
theorem rM1 (h : j < 2 ^ 31) : rMsgOf S kd (nI j) 1 = nI (S.2 2 j) := by rw [rMsgOf, if_neg (by decide), if_pos rfl, cl_n h]
theorem rM2 (h : j < 2 ^ 31) : rMsgOf S kd (nI j) 2 = S.1 5 j := by rw [rMsgOf, if_neg (by decide), if_neg (by decide), if_pos rfl, cl_n h]
theorem rM3 (h : j < 2 ^ 31) : rMsgOf S kd (nI j) 3 = S.1 7 j := by rw [rMsgOf, if_neg (by decide), if_neg (by decide), if_neg (by decide), if_pos rfl, cl_n h]
theorem rM4 (h : j < 2 ^ 31) : rMsgOf S kd (nI j) 4 = S.1 6 j := by rw [rMsgOf, if_neg (by decide), if_neg (by decide), if_neg (by decide), if_neg (by decide), if_pos rfl, cl_n h]
theorem rM5 (h : j < 2 ^ 31) (h8 : S.1 8 j = 0 ∨ S.1 8 j = 1) : rMsgOf S kd (nI j) 5 = S.1 8 j := by
  rw [rMsgOf, if_neg (by decide), if_neg (by decide), if_neg (by decide), if_neg (by decide), if_neg (by decide), if_pos rfl, cl_n h]
  rcases h8 with e | e <;> rw [e] <;> decide
theorem rM6 (h : j < 2 ^ 31) : rMsgOf S kd (nI j) 6 = nI (cntN S (kd j) (S.2 0 0)) := by rw [rMsgOf, if_neg (by decide), if_neg (by decide), if_neg (by decide), if_neg (by decide), if_neg (by decide), if_neg (by decide), cl_n h]
theorem rS0 (h : j < 2 ^ 31) : rSpOf S (nI j) 0 = S.1 12 j := by rw [rSpOf, if_pos rfl, cl_n h]
theorem rS1 (h : j < 2 ^ 31) : rSpOf S (nI j) 1 = nI (S.2 3 j) := by rw [rSpOf, if_neg (by decide), if_pos rfl, cl_n h]
theorem rS2 (h : j < 2 ^ 31) : rSpOf S (nI j) 2 = S.1 10 j := by rw [rSpOf, if_neg (by decide), if_neg (by decide), if_pos rfl, cl_n h]
theorem rS3 (h : j < 2 ^ 31) : rSpOf S (nI j) 3 = S.1 11 j := by rw [rSpOf, if_neg (by decide), if_neg (by decide), if_neg (by decide), cl_n h]
theorem cMsg_0 (h : j < S.2 0 1) (h2 : S.2 0 1 < 2 ^ 31) {w : Int32} (hw : inR w 0 6 = true) : cMsgOf S (nI j) w = 0 := by
  rw [cMsgOf, inB_nI h h2, hw, if_neg (by decide), if_neg (by decide)]
theorem inB_out {n : Nat} (h : n < 2 ^ 31) : inB (nI n) n = false := by
  rw [inB, nI_toInt h, decide_eq_false (p := (n : Int) < n) (by omega), Bool.and_false]
theorem inB_no {x n : Nat} (h : n ≤ x) (hx : x < 2 ^ 31) : inB (nI x) n = false := by
  rw [inB, nI_toInt hx, decide_eq_false (p := (x : Int) < n) (by omega), Bool.and_false]
theorem cMsg_1 (h2 : S.2 0 1 < 2 ^ 31) {w : Int32} : cMsgOf S (nI (S.2 0 1)) w = 1 := by rw [cMsgOf, inB_out h2, if_pos rfl]
theorem cSp_0 (h : j < S.2 0 2) (h2 : S.2 0 2 < 2 ^ 31) {w : Int32} (hw : inR w 0 3 = true) : cSpOf S (nI j) w = 0 := by
  rw [cSpOf, inB_nI h h2, hw, if_neg (by decide), if_neg (by decide)]
theorem cAp_0 (h : j < S.2 0 1) (h2 : S.2 0 1 < 2 ^ 31) {w : Int32} (hw : inR w 1 1000000 = true) : cAppr S (nI j) w = 0 := by
  rw [cAppr, inB_nI h h2, hw, if_neg (by decide), if_neg (by decide)]
theorem cTk_0 (h : j < S.2 0 3) (h2 : S.2 0 3 < 2 ^ 31) : cTaskOf S (nI j) = 0 := by rw [cTaskOf, inB_nI h h2, if_neg (by decide)]
theorem cLf_0 (h : j < 6) : cLeft (nI j) = 0 := by rw [cLeft, inB_nI h (by decide), if_neg (by decide)]
theorem cNx_0 (h : j < S.2 0 0) (h2 : S.2 0 0 < 2 ^ 31) {r : Nat} (hr : r < 2 ^ 31) : cNext S (nI j) (nI r) = 0 := by
  rw [cNext, inB_nI h h2, decide_eq_true (nI_pos' hr), if_neg (by decide)]
end RMS
/-- an approval, from the marks as they stand or from the log, for amounts of one side -/
theorem apr_any {S : kSt} {g : Nat → Int32} {i : Nat} {x y n : Int32} (hN : okN S) (hL : Lgr S) (hi : i < S.2 0 1) (h : (1000 < x) ↔ (1000 < y)) : rAprC (sF S 18 g) (nI i) x n = appr S (kdS S i) (S.2 1 i) (S.2 0 0) y := by
  have e1 : rAprC (sF S 18 g) (nI i) x n = appr (sF S 18 g) (kdS S i) (S.2 1 i) (S.2 0 0) x := by
    unfold rAprC
    rw [cl_n (show i < 2 ^ 31 by have := hN.2.1; omega)]
    have eq0 : eqR (sF S 18 g) (sF S 18 g) := ⟨fun _ _ _ => rfl, fun _ _ _ => rfl⟩
    refine appr_e eq0 (fun u hu => ?_)
    have hu12 : u < 12 := Nat.lt_of_lt_of_le hu hN.1
    split
    · show kdS (sF S 18 g) i u = kdS S i u
      rw [kdS_f (S := S) (S' := sF S 18 g) (fun m => sF_fn (by omega))]
    · have r := rpl_c (S := S) (S' := sF S 18 g) (m := i) (b := (sF S 18 g).1 18) (S.2 0 4) (fun j _ => ⟨by rw [sF_fn (by decide)], by rw [sF_fn (by decide)], by rw [sF_fn (by decide)]⟩)
      show rpl (sF S 18 g) i ((sF S 18 g).1 18) (S.2 0 4) u = kdS S i u
      rw [r]
      exact hL.2.2 _ i u hi hu12
  rw [e1]
  have e2 : appr (sF S 18 g) (kdS S i) (S.2 1 i) (S.2 0 0) x = appr S (kdS S i) (S.2 1 i) (S.2 0 0) x := by
    have eq1 : eqR (sF S 18 g) S := eqR.fs ⟨fun _ _ _ => rfl, fun _ _ _ => rfl⟩ (by decide)
    exact appr_e eq1 (fun _ _ => rfl)
  rw [e2]
  unfold appr
  by_cases hx : 1000 < x
  · rw [if_pos hx, if_pos (h.mp hx)]
  · rw [if_neg hx, if_neg (fun z => hx (h.mpr z))]
/-- tasks that are open for a user -/
def opnN (S : kSt) (u : Nat) : Nat → Nat
  | 0 => 0
  | n + 1 => opnN S u n + (if opn S u n = true then 1 else 0)
theorem opnN_le (S : kSt) (u : Nat) : ∀ n, opnN S u n ≤ n
  | 0 => Nat.le_refl _
  | n + 1 => by have := opnN_le S u n; simp only [opnN]; split <;> omega
theorem rnk_opn {S : kSt} {u t : Nat} (h : opn S u t = true) : ∀ n, rnk S u t n ≤ opnN S u n ∧ (t < n → rnk S u t n < opnN S u n)
  | 0 => ⟨Nat.le_refl _, fun h => absurd h (Nat.not_lt_zero _)⟩
  | n + 1 => by
    obtain ⟨h1, h2⟩ := rnk_opn h n
    simp only [rnk, opnN]
    by_cases e : t = n
    · subst e
      rw [h, ahead_i]
      refine ⟨by simp; omega, fun _ => by simp; omega⟩
    · cases hb : opn S u n with
      | false => exact ⟨by simp; omega, fun z => by have := h2 (by omega); simp; omega⟩
      | true =>
        refine ⟨by simp; split <;> omega, fun z => ?_⟩
        have := h2 (by omega)
        simp
        split <;> omega
theorem next_at {S : kSt} {u i : Nat} (hN : S.2 0 3 ≤ 60) (hi : i < S.2 0 3) (h : opn S u i = true) : nxtC S u (nI (rnk S u i (S.2 0 3))) (S.2 0 3) = nI i := by
  have hh : hit S u (nI (rnk S u i (S.2 0 3))) i = true := by rw [hit, h, decide_eq_true rfl]; rfl
  rcases nxtC_c (S := S) u (nI (rnk S u i (S.2 0 3))) (S.2 0 3) (by omega) with ⟨j, j1, j2, j3⟩ | ⟨j1, -⟩
  · rw [j3, hit_u hN j1 hi j2 hh]
  · rw [j1 i hi] at hh; exact absurd hh (by decide)
theorem next_no {S : kSt} {u : Nat} (hN : S.2 0 3 ≤ 60) : nxtC S u (nI (opnN S u (S.2 0 3))) (S.2 0 3) = -1 := by
  rcases nxtC_c (S := S) u (nI (opnN S u (S.2 0 3))) (S.2 0 3) (by omega) with ⟨j, j1, j2, -⟩ | ⟨-, j2⟩
  · exfalso
    rw [hit, Bool.and_eq_true, decide_eq_true_eq] at j2
    have a := (rnk_opn j2.1 (S.2 0 3)).2 j1
    have b := opnN_le S u (S.2 0 3)
    have c := (nI_eq (a := rnk S u j (S.2 0 3)) (b := opnN S u (S.2 0 3)) (by omega) (by omega)).mp j2.2
    omega
  · exact j2
def usr (S : kSt) (x : Nat) : Nat := if S.2 0 0 = 0 then 0 else x % S.2 0 0
theorem usr_lt {S : kSt} {x : Nat} (h : ¬ S.2 0 0 = 0) : usr S x < S.2 0 0 := by rw [usr, if_neg h]; exact Nat.mod_lt _ (by omega)
/-- the label's four numbers -/
theorem gd_1 {p d r : List Nat} {i : Nat} (h : i < d.length) : (p ++ (d ++ r)).getD (p.length + i) 0 = d.getD i 0 := by
  rw [List.getD_eq_getElem?_getD, List.getD_eq_getElem?_getD, List.getElem?_append_right (by omega), Nat.add_sub_cancel_left, List.getElem?_append_left h]
theorem gd_2 {p d r : List Nat} {x : Nat} : (p ++ (d ++ x :: r)).getD (p.length + d.length) 0 = x := by
  rw [List.getD_eq_getElem?_getD, List.getElem?_append_right (by omega), Nat.add_sub_cancel_left, List.getElem?_append_right (by omega), Nat.sub_self]
  rfl
theorem gd_3 {p d : List Nat} : (p ++ d).getD (p.length + d.length) 0 = 0 := by
  rw [List.getD_eq_getElem?_getD, List.getElem?_eq_none (by rw [List.length_append]; omega)]
  rfl
def lbp1 (S : kSt) (t : Nat) : Nat := (dgs 20 (S.2 4 t)).length + 1
def lbp2 (S : kSt) (t : Nat) : Nat := lbp1 S t + (dgs 20 (S.1 20 t).toNatClampNeg).length + 1
def lbp3 (S : kSt) (t : Nat) : Nat := lbp2 S t + (dgs 20 (S.2 5 t)).length + 1
theorem lbp_le (S : kSt) (t : Nat) : lbp1 S t ≤ 21 ∧ lbp2 S t ≤ 42 ∧ lbp3 S t ≤ 63 := by
  have h1 := dgs_len 20 (S.2 4 t)
  have h2 := dgs_len 20 (S.1 20 t).toNatClampNeg
  have h3 := dgs_len 20 (S.2 5 t)
  unfold lbp3 lbp2 lbp1
  omega
theorem lab_0 (S : kSt) (t : Nat) : (∀ i, i < (dgs 20 (S.2 4 t)).length → (lab S t).getD (0 + i) 0 = (dgs 20 (S.2 4 t)).getD i 0) ∧ (lab S t).getD (0 + (dgs 20 (S.2 4 t)).length) 0 = 46 := by
  have e : lab S t = ([] : List Nat) ++ (dgs 20 (S.2 4 t) ++ 46 :: (dgs 20 (S.1 20 t).toNatClampNeg ++ 62 :: (dgs 20 (S.2 5 t) ++ 64 :: dgs 20 (S.1 13 t).toNatClampNeg))) := rfl
  rw [e]
  exact ⟨fun i hi => gd_1 (p := ([] : List Nat)) hi, gd_2 (p := ([] : List Nat))⟩
theorem lab_1 (S : kSt) (t : Nat) : (∀ i, i < (dgs 20 (S.1 20 t).toNatClampNeg).length → (lab S t).getD (lbp1 S t + i) 0 = (dgs 20 (S.1 20 t).toNatClampNeg).getD i 0) ∧ (lab S t).getD (lbp1 S t + (dgs 20 (S.1 20 t).toNatClampNeg).length) 0 = 62 := by
  have e : lab S t = (dgs 20 (S.2 4 t) ++ [46]) ++ (dgs 20 (S.1 20 t).toNatClampNeg ++ 62 :: (dgs 20 (S.2 5 t) ++ 64 :: dgs 20 (S.1 13 t).toNatClampNeg)) := by simp only [lab, List.append_assoc, List.nil_append, List.cons_append]
  have l : lbp1 S t = (dgs 20 (S.2 4 t) ++ [46]).length := by rw [List.length_append]; rfl
  rw [e, l]
  exact ⟨fun i hi => gd_1 hi, gd_2⟩
theorem lab_2 (S : kSt) (t : Nat) : (∀ i, i < (dgs 20 (S.2 5 t)).length → (lab S t).getD (lbp2 S t + i) 0 = (dgs 20 (S.2 5 t)).getD i 0) ∧ (lab S t).getD (lbp2 S t + (dgs 20 (S.2 5 t)).length) 0 = 64 := by
  have e : lab S t = (dgs 20 (S.2 4 t) ++ 46 :: (dgs 20 (S.1 20 t).toNatClampNeg ++ [62])) ++ (dgs 20 (S.2 5 t) ++ 64 :: dgs 20 (S.1 13 t).toNatClampNeg) := by simp only [lab, List.append_assoc, List.nil_append, List.cons_append]
  have l : lbp2 S t = (dgs 20 (S.2 4 t) ++ 46 :: (dgs 20 (S.1 20 t).toNatClampNeg ++ [62])).length := by
    simp only [List.length_append, List.length_cons, List.length_nil]
    unfold lbp2 lbp1
    omega
  rw [e, l]
  exact ⟨fun i hi => gd_1 hi, gd_2⟩
theorem lab_3 (S : kSt) (t : Nat) : (∀ i, i < (dgs 20 (S.1 13 t).toNatClampNeg).length → (lab S t).getD (lbp3 S t + i) 0 = (dgs 20 (S.1 13 t).toNatClampNeg).getD i 0) ∧ (lab S t).getD (lbp3 S t + (dgs 20 (S.1 13 t).toNatClampNeg).length) 0 = 0 := by
  have e : lab S t = (dgs 20 (S.2 4 t) ++ 46 :: (dgs 20 (S.1 20 t).toNatClampNeg ++ 62 :: (dgs 20 (S.2 5 t) ++ [64]))) ++ dgs 20 (S.1 13 t).toNatClampNeg := by simp only [lab, List.append_assoc, List.nil_append, List.cons_append]
  have l : lbp3 S t = (dgs 20 (S.2 4 t) ++ 46 :: (dgs 20 (S.1 20 t).toNatClampNeg ++ 62 :: (dgs 20 (S.2 5 t) ++ [64]))).length := by
    simp only [List.length_append, List.length_cons, List.length_nil]
    unfold lbp3 lbp2 lbp1
    omega
  rw [e, l]
  exact ⟨fun i hi => by have z := gd_1 (r := []) (p := (dgs 20 (S.2 4 t) ++ 46 :: (dgs 20 (S.1 20 t).toNatClampNeg ++ 62 :: (dgs 20 (S.2 5 t) ++ [64])))) hi; rw [List.append_nil] at z; exact z, gd_3⟩
