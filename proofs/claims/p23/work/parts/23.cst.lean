/-! STORES into the class: a cell written is a register changed -/
theorem sI_2g {S : kSt} {f i g : Nat} {v : Int32} : (sI S f i v).2 g = S.2 g := rfl
theorem sR_2g {S : kSt} {f a n g : Nat} {v : Int32} : (sR S f a n v).2 g = S.2 g := rfl
theorem sI_fn {S : kSt} {f i g : Nat} {v : Int32} (h : g ≠ f) : (sI S f i v).1 g = S.1 g := by funext j; exact sI_f h
theorem sR_fn {S : kSt} {f a n g : Nat} {v : Int32} (h : g ≠ f) : (sR S f a n v).1 g = S.1 g := by
  funext j
  simp only [sR]
  rw [if_neg (fun z => h z.1)]
theorem sN_fn {S : kSt} {f i g v : Nat} (h : g ≠ f) : (sN S f i v).2 g = S.2 g := by funext j; exact sN_f h
theorem lcnt_c {S S' : kSt} (h : S'.2 0 = S.2 0) : lcnt S' = lcnt S := by funext l; unfold lcnt; rw [h]
section CE
variable {G : kG} {S S' T : kSt} {o : Int64} {ad : kAd} {i : Nat}
theorem ctE_0 (h : S'.1 0 = S.1 0) : cto G S' T o ad 0 i = cto G S T o ad 0 i := by simp only [cto, h]
theorem ctE_1 (h : S'.1 19 = S.1 19) (h2 : S'.2 0 = S.2 0) (h6 : S'.2 6 = S.2 6) : cto G S' T o ad 1 i = cto G S T o ad 1 i := by simp only [cto, h, h6, lcnt_c h2]
theorem ctE_2 (h2 : S'.2 0 = S.2 0) (h6 : S'.2 6 = S.2 6) : cto G S' T o ad 2 i = cto G S T o ad 2 i := by simp only [cto, h6, lcnt_c h2]
theorem ctE_3 (h3 : S'.1 3 = S.1 3) (h4 : S'.1 4 = S.1 4) : cto G S' T o ad 3 i = cto G S T o ad 3 i := by simp only [cto, h3, h4]
theorem ctE_4 (h1 : S'.1 1 = S.1 1) (h2 : S'.1 2 = S.1 2) (h0 : S'.2 0 = S.2 0) : cto G S' T o ad 4 i = cto G S T o ad 4 i := by simp only [cto, h1, h2, h0]
theorem ctE_5 (h5 : S'.1 5 = S.1 5) (h6 : S'.1 6 = S.1 6) (h7 : S'.1 7 = S.1 7) (h8 : S'.1 8 = S.1 8) (h0 : S'.2 0 = S.2 0) (g1 : S'.2 1 = S.2 1) (g2 : S'.2 2 = S.2 2) : cto G S' T o ad 5 i = cto G S T o ad 5 i := by simp only [cto, h5, h6, h7, h8, h0, g1, g2]
theorem ctE_6 (h0 : S'.2 0 = S.2 0) : cto G S' T o ad 6 i = cto G S T o ad 6 i := by simp only [cto, h0]
theorem ctE_7 (h : S'.1 (100 + i) = S.1 (100 + i)) (h0 : S'.2 0 = S.2 0) : cto G S' T o ad 7 i = cto G S T o ad 7 i := by simp only [cto, h, h0]
theorem ctE_8 (h1 : S'.1 10 = S.1 10) (h2 : S'.1 11 = S.1 11) (h3 : S'.1 12 = S.1 12) (h0 : S'.2 0 = S.2 0) (g3 : S'.2 3 = S.2 3) : cto G S' T o ad 8 i = cto G S T o ad 8 i := by simp only [cto, h1, h2, h3, h0, g3]
theorem ctE_9 (h1 : S'.1 13 = S.1 13) (h2 : S'.1 14 = S.1 14) (h0 : S'.2 0 = S.2 0) (g4 : S'.2 4 = S.2 4) (g5 : S'.2 5 = S.2 5) : cto G S' T o ad 9 i = cto G S T o ad 9 i := by simp only [cto, h1, h2, h0, g4, g5]
theorem ctE_10 (h0 : S'.2 0 = S.2 0) : cto G S' T o ad 10 i = cto G S T o ad 10 i := by simp only [cto, h0]
theorem ctE_11 (h1 : S'.1 13 = S.1 13) (h2 : S'.1 20 = S.1 20) (h0 : S'.2 0 = S.2 0) (g4 : S'.2 4 = S.2 4) (g5 : S'.2 5 = S.2 5) : cto G S' T o ad 11 i = cto G S T o ad 11 i := by simp only [cto, lab, h1, h2, h0, g4, g5]
theorem ctE_12 (h0 : S'.2 0 = S.2 0) : cto G S' T o ad 12 i = cto G S T o ad 12 i := by simp only [cto, h0]
theorem ctE_13 (h : i < 3 → S'.1 (15 + i) = S.1 (15 + i)) : cto G S' T o ad 13 i = cto G S T o ad 13 i := by
  by_cases hi : i < 3
  · simp only [cto, h hi]
  · simp only [cto, if_neg hi]
theorem ctE_14 : cto G S' T o ad 14 i = cto G S T o ad 14 i := by simp only [cto]
theorem ctE_16 : cto G S' T o ad 16 i = cto G S T o ad 16 i := by simp only [cto]
theorem ctE_17 : cto G S' T o ad 17 i = cto G S T o ad 17 i := by simp only [cto]
theorem ctE_18 : cto G S' T o ad 18 i = cto G S T o ad 18 i := by simp only [cto]
theorem ctE_19 {k : Nat} : cto G S' T o ad (k + 19) i = cto G S T o ad (k + 19) i := by simp only [cto]
theorem ctE_15 (h : S'.1 18 = S.1 18) : cto G S' T o ad 15 i = cto G S T o ad 15 i := by simp only [cto, h]
end CE
section CST
variable {G : kG} {S T : kSt} {o : Int64} {ad : kAd}
theorem ne_a {g i : Nat} (h : g < 100) : g ≠ 100 + i := by omega
theorem ne_b {f i : Nat} (h : f < 100) : 100 + i ≠ f := by omega
theorem ne_c {i j : Nat} (h : i < 3) : 100 + j ≠ 15 + i := by omega
theorem ne_c9 {i j : Nat} (h : j < 3) : 15 + j ≠ 100 + i := by omega
theorem ne_d {f j : Nat} (h : j < 3) (hf : f < 15 ∨ 18 ≤ f) : 15 + j ≠ f := by omega
theorem ne_e {g i : Nat} (h : g < 15 ∨ 18 ≤ g) (hi : i < 3) : g ≠ 15 + i := by omega
theorem ne_f {i j : Nat} (h : ¬ j = i) : 100 + j ≠ 100 + i := by omega
theorem ne_g {i j : Nat} (h : ¬ j = i) : 15 + j ≠ 15 + i := by omega
theorem upd_sI {S : kSt} {f u : Nat} {v : Int32} : upd (S.1 f) u v = (sI S f u v).1 f := by
  funext j
  simp only [upd, sI, true_and]
theorem sI_fx {S : kSt} {f g u : Nat} {v : Int32} (h : ¬ g = f) : (sI S f u v).1 g = S.1 g := sI_fn h
theorem sR_fx {S : kSt} {f : Nat} {v : Int32} : (fun q => if q < 12 then v else S.1 f q) = (sR S f 0 12 v).1 f := by
  funext j
  simp only [sR, true_and, Nat.zero_le, Nat.zero_add]
theorem sR_fy {S : kSt} {f g : Nat} {v : Int32} (h : ¬ g = f) : (sR S f 0 12 v).1 g = S.1 g := sR_fn h
theorem cs_hour (v : Int32) : cup (cto G S T o ad) 0 0 (.inr (10, [.ref (ad 1 0), .ref (ad 1 1), .ref (ad 1 2), .ref (ad 1 3), .ref (ad 1 4), .ref (ad 12 0), .ref (ad 14 0), .int v])) = cto G (sI S 0 0 v) T o ad := by
  funext k i9
  match k with
  | 0 =>
    by_cases h9 : i9 = 0
    · subst h9; rw [cup_s]; simp [cto, sI]
    · rw [cup_n (fun z => h9 z.2)]; simp [cto, sI, h9]
  | 1 => exact (cup_n (fun z => absurd z.1 (by decide))).trans (ctE_1 (sI_fn (by decide)) sI_2g sI_2g).symm
  | 2 => exact (cup_n (fun z => absurd z.1 (by decide))).trans (ctE_2 sI_2g sI_2g).symm
  | 3 => exact (cup_n (fun z => absurd z.1 (by decide))).trans (ctE_3 (sI_fn (by decide)) (sI_fn (by decide))).symm
  | 4 => exact (cup_n (fun z => absurd z.1 (by decide))).trans (ctE_4 (sI_fn (by decide)) (sI_fn (by decide)) sI_2g).symm
  | 5 => exact (cup_n (fun z => absurd z.1 (by decide))).trans (ctE_5 (sI_fn (by decide)) (sI_fn (by decide)) (sI_fn (by decide)) (sI_fn (by decide)) sI_2g sI_2g sI_2g).symm
  | 6 => exact (cup_n (fun z => absurd z.1 (by decide))).trans (ctE_6 sI_2g).symm
  | 7 => exact (cup_n (fun z => absurd z.1 (by decide))).trans (ctE_7 (sI_fn (ne_b (by decide))) sI_2g).symm
  | 8 => exact (cup_n (fun z => absurd z.1 (by decide))).trans (ctE_8 (sI_fn (by decide)) (sI_fn (by decide)) (sI_fn (by decide)) sI_2g sI_2g).symm
  | 9 => exact (cup_n (fun z => absurd z.1 (by decide))).trans (ctE_9 (sI_fn (by decide)) (sI_fn (by decide)) sI_2g sI_2g sI_2g).symm
  | 10 => exact (cup_n (fun z => absurd z.1 (by decide))).trans (ctE_10 sI_2g).symm
  | 11 => exact (cup_n (fun z => absurd z.1 (by decide))).trans (ctE_11 (sI_fn (by decide)) (sI_fn (by decide)) sI_2g sI_2g sI_2g).symm
  | 12 => exact (cup_n (fun z => absurd z.1 (by decide))).trans (ctE_12 sI_2g).symm
  | 13 => exact (cup_n (fun z => absurd z.1 (by decide))).trans (ctE_13 (fun h9 => sI_fn (ne_d h9 (by decide)))).symm
  | 14 => exact (cup_n (fun z => absurd z.1 (by decide))).trans ctE_14
  | 15 => exact (cup_n (fun z => absurd z.1 (by decide))).trans (ctE_15 (sI_fn (by decide))).symm
  | 16 => exact (cup_n (fun z => absurd z.1 (by decide))).trans ctE_16
  | 17 => exact (cup_n (fun z => absurd z.1 (by decide))).trans ctE_17
  | 18 => exact (cup_n (fun z => absurd z.1 (by decide))).trans ctE_18
  | k9 + 19 => exact (cup_n (fun z => by have := z.1; omega)).trans ctE_19
theorem cs_cents (i : Nat) (v : Int32) (h : i < 6) : cup (cto G S T o ad) 3 i (.inr (3, [.int (nI i), .int v, .int (S.1 4 i)])) = cto G (sI S 3 i v) T o ad := by
  funext k i9
  match k with
  | 0 => exact (cup_n (fun z => absurd z.1 (by decide))).trans (ctE_0 (sI_fn (by decide))).symm
  | 1 => exact (cup_n (fun z => absurd z.1 (by decide))).trans (ctE_1 (sI_fn (by decide)) sI_2g sI_2g).symm
  | 2 => exact (cup_n (fun z => absurd z.1 (by decide))).trans (ctE_2 sI_2g sI_2g).symm
  | 3 =>
    by_cases h9 : i9 = i
    · subst h9; rw [cup_s]; simp [cto, sI, h]
    · rw [cup_n (fun z => h9 z.2)]; simp [cto, sI, h9]
  | 4 => exact (cup_n (fun z => absurd z.1 (by decide))).trans (ctE_4 (sI_fn (by decide)) (sI_fn (by decide)) sI_2g).symm
  | 5 => exact (cup_n (fun z => absurd z.1 (by decide))).trans (ctE_5 (sI_fn (by decide)) (sI_fn (by decide)) (sI_fn (by decide)) (sI_fn (by decide)) sI_2g sI_2g sI_2g).symm
  | 6 => exact (cup_n (fun z => absurd z.1 (by decide))).trans (ctE_6 sI_2g).symm
  | 7 => exact (cup_n (fun z => absurd z.1 (by decide))).trans (ctE_7 (sI_fn (ne_b (by decide))) sI_2g).symm
  | 8 => exact (cup_n (fun z => absurd z.1 (by decide))).trans (ctE_8 (sI_fn (by decide)) (sI_fn (by decide)) (sI_fn (by decide)) sI_2g sI_2g).symm
  | 9 => exact (cup_n (fun z => absurd z.1 (by decide))).trans (ctE_9 (sI_fn (by decide)) (sI_fn (by decide)) sI_2g sI_2g sI_2g).symm
  | 10 => exact (cup_n (fun z => absurd z.1 (by decide))).trans (ctE_10 sI_2g).symm
  | 11 => exact (cup_n (fun z => absurd z.1 (by decide))).trans (ctE_11 (sI_fn (by decide)) (sI_fn (by decide)) sI_2g sI_2g sI_2g).symm
  | 12 => exact (cup_n (fun z => absurd z.1 (by decide))).trans (ctE_12 sI_2g).symm
  | 13 => exact (cup_n (fun z => absurd z.1 (by decide))).trans (ctE_13 (fun h9 => sI_fn (ne_d h9 (by decide)))).symm
  | 14 => exact (cup_n (fun z => absurd z.1 (by decide))).trans ctE_14
  | 15 => exact (cup_n (fun z => absurd z.1 (by decide))).trans (ctE_15 (sI_fn (by decide))).symm
  | 16 => exact (cup_n (fun z => absurd z.1 (by decide))).trans ctE_16
  | 17 => exact (cup_n (fun z => absurd z.1 (by decide))).trans ctE_17
  | 18 => exact (cup_n (fun z => absurd z.1 (by decide))).trans ctE_18
  | k9 + 19 => exact (cup_n (fun z => by have := z.1; omega)).trans ctE_19
theorem cs_hold (i : Nat) (v : Int32) (h : i < 6) : cup (cto G S T o ad) 3 i (.inr (3, [.int (nI i), .int (S.1 3 i), .int v])) = cto G (sI S 4 i v) T o ad := by
  funext k i9
  match k with
  | 0 => exact (cup_n (fun z => absurd z.1 (by decide))).trans (ctE_0 (sI_fn (by decide))).symm
  | 1 => exact (cup_n (fun z => absurd z.1 (by decide))).trans (ctE_1 (sI_fn (by decide)) sI_2g sI_2g).symm
  | 2 => exact (cup_n (fun z => absurd z.1 (by decide))).trans (ctE_2 sI_2g sI_2g).symm
  | 3 =>
    by_cases h9 : i9 = i
    · subst h9; rw [cup_s]; simp [cto, sI, h]
    · rw [cup_n (fun z => h9 z.2)]; simp [cto, sI, h9]
  | 4 => exact (cup_n (fun z => absurd z.1 (by decide))).trans (ctE_4 (sI_fn (by decide)) (sI_fn (by decide)) sI_2g).symm
  | 5 => exact (cup_n (fun z => absurd z.1 (by decide))).trans (ctE_5 (sI_fn (by decide)) (sI_fn (by decide)) (sI_fn (by decide)) (sI_fn (by decide)) sI_2g sI_2g sI_2g).symm
  | 6 => exact (cup_n (fun z => absurd z.1 (by decide))).trans (ctE_6 sI_2g).symm
  | 7 => exact (cup_n (fun z => absurd z.1 (by decide))).trans (ctE_7 (sI_fn (ne_b (by decide))) sI_2g).symm
  | 8 => exact (cup_n (fun z => absurd z.1 (by decide))).trans (ctE_8 (sI_fn (by decide)) (sI_fn (by decide)) (sI_fn (by decide)) sI_2g sI_2g).symm
  | 9 => exact (cup_n (fun z => absurd z.1 (by decide))).trans (ctE_9 (sI_fn (by decide)) (sI_fn (by decide)) sI_2g sI_2g sI_2g).symm
  | 10 => exact (cup_n (fun z => absurd z.1 (by decide))).trans (ctE_10 sI_2g).symm
  | 11 => exact (cup_n (fun z => absurd z.1 (by decide))).trans (ctE_11 (sI_fn (by decide)) (sI_fn (by decide)) sI_2g sI_2g sI_2g).symm
  | 12 => exact (cup_n (fun z => absurd z.1 (by decide))).trans (ctE_12 sI_2g).symm
  | 13 => exact (cup_n (fun z => absurd z.1 (by decide))).trans (ctE_13 (fun h9 => sI_fn (ne_d h9 (by decide)))).symm
  | 14 => exact (cup_n (fun z => absurd z.1 (by decide))).trans ctE_14
  | 15 => exact (cup_n (fun z => absurd z.1 (by decide))).trans (ctE_15 (sI_fn (by decide))).symm
  | 16 => exact (cup_n (fun z => absurd z.1 (by decide))).trans ctE_16
  | 17 => exact (cup_n (fun z => absurd z.1 (by decide))).trans ctE_17
  | 18 => exact (cup_n (fun z => absurd z.1 (by decide))).trans ctE_18
  | k9 + 19 => exact (cup_n (fun z => by have := z.1; omega)).trans ctE_19
theorem cs_rank (i : Nat) (v : Int32) (h : i < S.2 0 0) : cup (cto G S T o ad) 4 i (.inr (9, [.int (nI i), .int v, .int (S.1 2 i)])) = cto G (sI S 1 i v) T o ad := by
  funext k i9
  match k with
  | 0 => exact (cup_n (fun z => absurd z.1 (by decide))).trans (ctE_0 (sI_fn (by decide))).symm
  | 1 => exact (cup_n (fun z => absurd z.1 (by decide))).trans (ctE_1 (sI_fn (by decide)) sI_2g sI_2g).symm
  | 2 => exact (cup_n (fun z => absurd z.1 (by decide))).trans (ctE_2 sI_2g sI_2g).symm
  | 3 => exact (cup_n (fun z => absurd z.1 (by decide))).trans (ctE_3 (sI_fn (by decide)) (sI_fn (by decide))).symm
  | 4 =>
    by_cases h9 : i9 = i
    · subst h9; rw [cup_s]; simp [cto, sI, h]
    · rw [cup_n (fun z => h9 z.2)]; simp [cto, sI, h9]
  | 5 => exact (cup_n (fun z => absurd z.1 (by decide))).trans (ctE_5 (sI_fn (by decide)) (sI_fn (by decide)) (sI_fn (by decide)) (sI_fn (by decide)) sI_2g sI_2g sI_2g).symm
  | 6 => exact (cup_n (fun z => absurd z.1 (by decide))).trans (ctE_6 sI_2g).symm
  | 7 => exact (cup_n (fun z => absurd z.1 (by decide))).trans (ctE_7 (sI_fn (ne_b (by decide))) sI_2g).symm
  | 8 => exact (cup_n (fun z => absurd z.1 (by decide))).trans (ctE_8 (sI_fn (by decide)) (sI_fn (by decide)) (sI_fn (by decide)) sI_2g sI_2g).symm
  | 9 => exact (cup_n (fun z => absurd z.1 (by decide))).trans (ctE_9 (sI_fn (by decide)) (sI_fn (by decide)) sI_2g sI_2g sI_2g).symm
  | 10 => exact (cup_n (fun z => absurd z.1 (by decide))).trans (ctE_10 sI_2g).symm
  | 11 => exact (cup_n (fun z => absurd z.1 (by decide))).trans (ctE_11 (sI_fn (by decide)) (sI_fn (by decide)) sI_2g sI_2g sI_2g).symm
  | 12 => exact (cup_n (fun z => absurd z.1 (by decide))).trans (ctE_12 sI_2g).symm
  | 13 => exact (cup_n (fun z => absurd z.1 (by decide))).trans (ctE_13 (fun h9 => sI_fn (ne_d h9 (by decide)))).symm
  | 14 => exact (cup_n (fun z => absurd z.1 (by decide))).trans ctE_14
  | 15 => exact (cup_n (fun z => absurd z.1 (by decide))).trans (ctE_15 (sI_fn (by decide))).symm
  | 16 => exact (cup_n (fun z => absurd z.1 (by decide))).trans ctE_16
  | 17 => exact (cup_n (fun z => absurd z.1 (by decide))).trans ctE_17
  | 18 => exact (cup_n (fun z => absurd z.1 (by decide))).trans ctE_18
  | k9 + 19 => exact (cup_n (fun z => by have := z.1; omega)).trans ctE_19
theorem cs_end (i : Nat) (v : Int32) (h : i < S.2 0 0) : cup (cto G S T o ad) 4 i (.inr (9, [.int (nI i), .int (S.1 1 i), .int v])) = cto G (sI S 2 i v) T o ad := by
  funext k i9
  match k with
  | 0 => exact (cup_n (fun z => absurd z.1 (by decide))).trans (ctE_0 (sI_fn (by decide))).symm
  | 1 => exact (cup_n (fun z => absurd z.1 (by decide))).trans (ctE_1 (sI_fn (by decide)) sI_2g sI_2g).symm
  | 2 => exact (cup_n (fun z => absurd z.1 (by decide))).trans (ctE_2 sI_2g sI_2g).symm
  | 3 => exact (cup_n (fun z => absurd z.1 (by decide))).trans (ctE_3 (sI_fn (by decide)) (sI_fn (by decide))).symm
  | 4 =>
    by_cases h9 : i9 = i
    · subst h9; rw [cup_s]; simp [cto, sI, h]
    · rw [cup_n (fun z => h9 z.2)]; simp [cto, sI, h9]
  | 5 => exact (cup_n (fun z => absurd z.1 (by decide))).trans (ctE_5 (sI_fn (by decide)) (sI_fn (by decide)) (sI_fn (by decide)) (sI_fn (by decide)) sI_2g sI_2g sI_2g).symm
  | 6 => exact (cup_n (fun z => absurd z.1 (by decide))).trans (ctE_6 sI_2g).symm
  | 7 => exact (cup_n (fun z => absurd z.1 (by decide))).trans (ctE_7 (sI_fn (ne_b (by decide))) sI_2g).symm
  | 8 => exact (cup_n (fun z => absurd z.1 (by decide))).trans (ctE_8 (sI_fn (by decide)) (sI_fn (by decide)) (sI_fn (by decide)) sI_2g sI_2g).symm
  | 9 => exact (cup_n (fun z => absurd z.1 (by decide))).trans (ctE_9 (sI_fn (by decide)) (sI_fn (by decide)) sI_2g sI_2g sI_2g).symm
  | 10 => exact (cup_n (fun z => absurd z.1 (by decide))).trans (ctE_10 sI_2g).symm
  | 11 => exact (cup_n (fun z => absurd z.1 (by decide))).trans (ctE_11 (sI_fn (by decide)) (sI_fn (by decide)) sI_2g sI_2g sI_2g).symm
  | 12 => exact (cup_n (fun z => absurd z.1 (by decide))).trans (ctE_12 sI_2g).symm
  | 13 => exact (cup_n (fun z => absurd z.1 (by decide))).trans (ctE_13 (fun h9 => sI_fn (ne_d h9 (by decide)))).symm
  | 14 => exact (cup_n (fun z => absurd z.1 (by decide))).trans ctE_14
  | 15 => exact (cup_n (fun z => absurd z.1 (by decide))).trans (ctE_15 (sI_fn (by decide))).symm
  | 16 => exact (cup_n (fun z => absurd z.1 (by decide))).trans ctE_16
  | 17 => exact (cup_n (fun z => absurd z.1 (by decide))).trans ctE_17
  | 18 => exact (cup_n (fun z => absurd z.1 (by decide))).trans ctE_18
  | k9 + 19 => exact (cup_n (fun z => by have := z.1; omega)).trans ctE_19
theorem cs_version (i : Nat) (v : Int32) (h : i < S.2 0 1) : cup (cto G S T o ad) 5 i (.inr (6, [.int (nI i), .ref (ad 4 (S.2 1 i)), .ref (ad 3 (S.2 2 i)), .int (S.1 5 i), .int (S.1 6 i), .ref (ad 6 i), .int v, .int (S.1 8 i)])) = cto G (sI S 7 i v) T o ad := by
  funext k i9
  match k with
  | 0 => exact (cup_n (fun z => absurd z.1 (by decide))).trans (ctE_0 (sI_fn (by decide))).symm
  | 1 => exact (cup_n (fun z => absurd z.1 (by decide))).trans (ctE_1 (sI_fn (by decide)) sI_2g sI_2g).symm
  | 2 => exact (cup_n (fun z => absurd z.1 (by decide))).trans (ctE_2 sI_2g sI_2g).symm
  | 3 => exact (cup_n (fun z => absurd z.1 (by decide))).trans (ctE_3 (sI_fn (by decide)) (sI_fn (by decide))).symm
  | 4 => exact (cup_n (fun z => absurd z.1 (by decide))).trans (ctE_4 (sI_fn (by decide)) (sI_fn (by decide)) sI_2g).symm
  | 5 =>
    by_cases h9 : i9 = i
    · subst h9; rw [cup_s]; simp [cto, sI, h]
    · rw [cup_n (fun z => h9 z.2)]; simp [cto, sI, h9]
  | 6 => exact (cup_n (fun z => absurd z.1 (by decide))).trans (ctE_6 sI_2g).symm
  | 7 => exact (cup_n (fun z => absurd z.1 (by decide))).trans (ctE_7 (sI_fn (ne_b (by decide))) sI_2g).symm
  | 8 => exact (cup_n (fun z => absurd z.1 (by decide))).trans (ctE_8 (sI_fn (by decide)) (sI_fn (by decide)) (sI_fn (by decide)) sI_2g sI_2g).symm
  | 9 => exact (cup_n (fun z => absurd z.1 (by decide))).trans (ctE_9 (sI_fn (by decide)) (sI_fn (by decide)) sI_2g sI_2g sI_2g).symm
  | 10 => exact (cup_n (fun z => absurd z.1 (by decide))).trans (ctE_10 sI_2g).symm
  | 11 => exact (cup_n (fun z => absurd z.1 (by decide))).trans (ctE_11 (sI_fn (by decide)) (sI_fn (by decide)) sI_2g sI_2g sI_2g).symm
  | 12 => exact (cup_n (fun z => absurd z.1 (by decide))).trans (ctE_12 sI_2g).symm
  | 13 => exact (cup_n (fun z => absurd z.1 (by decide))).trans (ctE_13 (fun h9 => sI_fn (ne_d h9 (by decide)))).symm
  | 14 => exact (cup_n (fun z => absurd z.1 (by decide))).trans ctE_14
  | 15 => exact (cup_n (fun z => absurd z.1 (by decide))).trans (ctE_15 (sI_fn (by decide))).symm
  | 16 => exact (cup_n (fun z => absurd z.1 (by decide))).trans ctE_16
  | 17 => exact (cup_n (fun z => absurd z.1 (by decide))).trans ctE_17
  | 18 => exact (cup_n (fun z => absurd z.1 (by decide))).trans ctE_18
  | k9 + 19 => exact (cup_n (fun z => by have := z.1; omega)).trans ctE_19
theorem cs_arch (i : Nat) (v : Int32) (h : i < S.2 0 1) : cup (cto G S T o ad) 5 i (.inr (6, [.int (nI i), .ref (ad 4 (S.2 1 i)), .ref (ad 3 (S.2 2 i)), .int (S.1 5 i), .int (S.1 6 i), .ref (ad 6 i), .int (S.1 7 i), .int v])) = cto G (sI S 8 i v) T o ad := by
  funext k i9
  match k with
  | 0 => exact (cup_n (fun z => absurd z.1 (by decide))).trans (ctE_0 (sI_fn (by decide))).symm
  | 1 => exact (cup_n (fun z => absurd z.1 (by decide))).trans (ctE_1 (sI_fn (by decide)) sI_2g sI_2g).symm
  | 2 => exact (cup_n (fun z => absurd z.1 (by decide))).trans (ctE_2 sI_2g sI_2g).symm
  | 3 => exact (cup_n (fun z => absurd z.1 (by decide))).trans (ctE_3 (sI_fn (by decide)) (sI_fn (by decide))).symm
  | 4 => exact (cup_n (fun z => absurd z.1 (by decide))).trans (ctE_4 (sI_fn (by decide)) (sI_fn (by decide)) sI_2g).symm
  | 5 =>
    by_cases h9 : i9 = i
    · subst h9; rw [cup_s]; simp [cto, sI, h]
    · rw [cup_n (fun z => h9 z.2)]; simp [cto, sI, h9]
  | 6 => exact (cup_n (fun z => absurd z.1 (by decide))).trans (ctE_6 sI_2g).symm
  | 7 => exact (cup_n (fun z => absurd z.1 (by decide))).trans (ctE_7 (sI_fn (ne_b (by decide))) sI_2g).symm
  | 8 => exact (cup_n (fun z => absurd z.1 (by decide))).trans (ctE_8 (sI_fn (by decide)) (sI_fn (by decide)) (sI_fn (by decide)) sI_2g sI_2g).symm
  | 9 => exact (cup_n (fun z => absurd z.1 (by decide))).trans (ctE_9 (sI_fn (by decide)) (sI_fn (by decide)) sI_2g sI_2g sI_2g).symm
  | 10 => exact (cup_n (fun z => absurd z.1 (by decide))).trans (ctE_10 sI_2g).symm
  | 11 => exact (cup_n (fun z => absurd z.1 (by decide))).trans (ctE_11 (sI_fn (by decide)) (sI_fn (by decide)) sI_2g sI_2g sI_2g).symm
  | 12 => exact (cup_n (fun z => absurd z.1 (by decide))).trans (ctE_12 sI_2g).symm
  | 13 => exact (cup_n (fun z => absurd z.1 (by decide))).trans (ctE_13 (fun h9 => sI_fn (ne_d h9 (by decide)))).symm
  | 14 => exact (cup_n (fun z => absurd z.1 (by decide))).trans ctE_14
  | 15 => exact (cup_n (fun z => absurd z.1 (by decide))).trans (ctE_15 (sI_fn (by decide))).symm
  | 16 => exact (cup_n (fun z => absurd z.1 (by decide))).trans ctE_16
  | 17 => exact (cup_n (fun z => absurd z.1 (by decide))).trans ctE_17
  | 18 => exact (cup_n (fun z => absurd z.1 (by decide))).trans ctE_18
  | k9 + 19 => exact (cup_n (fun z => by have := z.1; omega)).trans ctE_19
theorem cs_spst (i : Nat) (v : Int32) (h : i < S.2 0 2) : cup (cto G S T o ad) 8 i (.inr (7, [.int (nI i), .ref (ad 5 (S.2 3 i)), .int (S.1 10 i), .int (S.1 11 i), .int v])) = cto G (sI S 12 i v) T o ad := by
  funext k i9
  match k with
  | 0 => exact (cup_n (fun z => absurd z.1 (by decide))).trans (ctE_0 (sI_fn (by decide))).symm
  | 1 => exact (cup_n (fun z => absurd z.1 (by decide))).trans (ctE_1 (sI_fn (by decide)) sI_2g sI_2g).symm
  | 2 => exact (cup_n (fun z => absurd z.1 (by decide))).trans (ctE_2 sI_2g sI_2g).symm
  | 3 => exact (cup_n (fun z => absurd z.1 (by decide))).trans (ctE_3 (sI_fn (by decide)) (sI_fn (by decide))).symm
  | 4 => exact (cup_n (fun z => absurd z.1 (by decide))).trans (ctE_4 (sI_fn (by decide)) (sI_fn (by decide)) sI_2g).symm
  | 5 => exact (cup_n (fun z => absurd z.1 (by decide))).trans (ctE_5 (sI_fn (by decide)) (sI_fn (by decide)) (sI_fn (by decide)) (sI_fn (by decide)) sI_2g sI_2g sI_2g).symm
  | 6 => exact (cup_n (fun z => absurd z.1 (by decide))).trans (ctE_6 sI_2g).symm
  | 7 => exact (cup_n (fun z => absurd z.1 (by decide))).trans (ctE_7 (sI_fn (ne_b (by decide))) sI_2g).symm
  | 8 =>
    by_cases h9 : i9 = i
    · subst h9; rw [cup_s]; simp [cto, sI, h]
    · rw [cup_n (fun z => h9 z.2)]; simp [cto, sI, h9]
  | 9 => exact (cup_n (fun z => absurd z.1 (by decide))).trans (ctE_9 (sI_fn (by decide)) (sI_fn (by decide)) sI_2g sI_2g sI_2g).symm
  | 10 => exact (cup_n (fun z => absurd z.1 (by decide))).trans (ctE_10 sI_2g).symm
  | 11 => exact (cup_n (fun z => absurd z.1 (by decide))).trans (ctE_11 (sI_fn (by decide)) (sI_fn (by decide)) sI_2g sI_2g sI_2g).symm
  | 12 => exact (cup_n (fun z => absurd z.1 (by decide))).trans (ctE_12 sI_2g).symm
  | 13 => exact (cup_n (fun z => absurd z.1 (by decide))).trans (ctE_13 (fun h9 => sI_fn (ne_d h9 (by decide)))).symm
  | 14 => exact (cup_n (fun z => absurd z.1 (by decide))).trans ctE_14
  | 15 => exact (cup_n (fun z => absurd z.1 (by decide))).trans (ctE_15 (sI_fn (by decide))).symm
  | 16 => exact (cup_n (fun z => absurd z.1 (by decide))).trans ctE_16
  | 17 => exact (cup_n (fun z => absurd z.1 (by decide))).trans ctE_17
  | 18 => exact (cup_n (fun z => absurd z.1 (by decide))).trans ctE_18
  | k9 + 19 => exact (cup_n (fun z => by have := z.1; omega)).trans ctE_19
theorem cs_tkst (i : Nat) (v : Int32) (h : i < S.2 0 3) : cup (cto G S T o ad) 9 i (.inr (8, [.int (nI i), .int (nI (S.2 4 i)), .ref (ad 4 (S.2 5 i)), .int (S.1 13 i), .ref (ad 10 i), .int v])) = cto G (sI S 14 i v) T o ad := by
  funext k i9
  match k with
  | 0 => exact (cup_n (fun z => absurd z.1 (by decide))).trans (ctE_0 (sI_fn (by decide))).symm
  | 1 => exact (cup_n (fun z => absurd z.1 (by decide))).trans (ctE_1 (sI_fn (by decide)) sI_2g sI_2g).symm
  | 2 => exact (cup_n (fun z => absurd z.1 (by decide))).trans (ctE_2 sI_2g sI_2g).symm
  | 3 => exact (cup_n (fun z => absurd z.1 (by decide))).trans (ctE_3 (sI_fn (by decide)) (sI_fn (by decide))).symm
  | 4 => exact (cup_n (fun z => absurd z.1 (by decide))).trans (ctE_4 (sI_fn (by decide)) (sI_fn (by decide)) sI_2g).symm
  | 5 => exact (cup_n (fun z => absurd z.1 (by decide))).trans (ctE_5 (sI_fn (by decide)) (sI_fn (by decide)) (sI_fn (by decide)) (sI_fn (by decide)) sI_2g sI_2g sI_2g).symm
  | 6 => exact (cup_n (fun z => absurd z.1 (by decide))).trans (ctE_6 sI_2g).symm
  | 7 => exact (cup_n (fun z => absurd z.1 (by decide))).trans (ctE_7 (sI_fn (ne_b (by decide))) sI_2g).symm
  | 8 => exact (cup_n (fun z => absurd z.1 (by decide))).trans (ctE_8 (sI_fn (by decide)) (sI_fn (by decide)) (sI_fn (by decide)) sI_2g sI_2g).symm
  | 9 =>
    by_cases h9 : i9 = i
    · subst h9; rw [cup_s]; simp [cto, sI, h]
    · rw [cup_n (fun z => h9 z.2)]; simp [cto, sI, h9]
  | 10 => exact (cup_n (fun z => absurd z.1 (by decide))).trans (ctE_10 sI_2g).symm
  | 11 => exact (cup_n (fun z => absurd z.1 (by decide))).trans (ctE_11 (sI_fn (by decide)) (sI_fn (by decide)) sI_2g sI_2g sI_2g).symm
  | 12 => exact (cup_n (fun z => absurd z.1 (by decide))).trans (ctE_12 sI_2g).symm
  | 13 => exact (cup_n (fun z => absurd z.1 (by decide))).trans (ctE_13 (fun h9 => sI_fn (ne_d h9 (by decide)))).symm
  | 14 => exact (cup_n (fun z => absurd z.1 (by decide))).trans ctE_14
  | 15 => exact (cup_n (fun z => absurd z.1 (by decide))).trans (ctE_15 (sI_fn (by decide))).symm
  | 16 => exact (cup_n (fun z => absurd z.1 (by decide))).trans ctE_16
  | 17 => exact (cup_n (fun z => absurd z.1 (by decide))).trans ctE_17
  | 18 => exact (cup_n (fun z => absurd z.1 (by decide))).trans ctE_18
  | k9 + 19 => exact (cup_n (fun z => by have := z.1; omega)).trans ctE_19
theorem cs_mput (i u : Nat) (v : Int32) (h : i < S.2 0 1) : cup (cto G S T o ad) 7 i (.inl (G.2.2.1, 12, .inl (upd (S.1 (100 + i)) u v))) = cto G (sI S (100 + i) u v) T o ad := by
  funext k i9
  match k with
  | 0 => exact (cup_n (fun z => absurd z.1 (by decide))).trans (ctE_0 (sI_fn (by exact ne_a (by decide)))).symm
  | 1 => exact (cup_n (fun z => absurd z.1 (by decide))).trans (ctE_1 (sI_fn (by exact ne_a (by decide))) sI_2g sI_2g).symm
  | 2 => exact (cup_n (fun z => absurd z.1 (by decide))).trans (ctE_2 sI_2g sI_2g).symm
  | 3 => exact (cup_n (fun z => absurd z.1 (by decide))).trans (ctE_3 (sI_fn (by exact ne_a (by decide))) (sI_fn (by exact ne_a (by decide)))).symm
  | 4 => exact (cup_n (fun z => absurd z.1 (by decide))).trans (ctE_4 (sI_fn (by exact ne_a (by decide))) (sI_fn (by exact ne_a (by decide))) sI_2g).symm
  | 5 => exact (cup_n (fun z => absurd z.1 (by decide))).trans (ctE_5 (sI_fn (by exact ne_a (by decide))) (sI_fn (by exact ne_a (by decide))) (sI_fn (by exact ne_a (by decide))) (sI_fn (by exact ne_a (by decide))) sI_2g sI_2g sI_2g).symm
  | 6 => exact (cup_n (fun z => absurd z.1 (by decide))).trans (ctE_6 sI_2g).symm
  | 7 =>
    by_cases h9 : i9 = i
    · subst h9; rw [cup_s]; simp only [cto]; rw [if_pos (show i9 < (sI S (100 + i9) u v).2 0 1 from h), upd_sI]
    · rw [cup_n (fun z => h9 z.2)]; exact (ctE_7 (sI_fn (ne_f h9)) sI_2g).symm
  | 8 => exact (cup_n (fun z => absurd z.1 (by decide))).trans (ctE_8 (sI_fn (by exact ne_a (by decide))) (sI_fn (by exact ne_a (by decide))) (sI_fn (by exact ne_a (by decide))) sI_2g sI_2g).symm
  | 9 => exact (cup_n (fun z => absurd z.1 (by decide))).trans (ctE_9 (sI_fn (by exact ne_a (by decide))) (sI_fn (by exact ne_a (by decide))) sI_2g sI_2g sI_2g).symm
  | 10 => exact (cup_n (fun z => absurd z.1 (by decide))).trans (ctE_10 sI_2g).symm
  | 11 => exact (cup_n (fun z => absurd z.1 (by decide))).trans (ctE_11 (sI_fn (by exact ne_a (by decide))) (sI_fn (by exact ne_a (by decide))) sI_2g sI_2g sI_2g).symm
  | 12 => exact (cup_n (fun z => absurd z.1 (by decide))).trans (ctE_12 sI_2g).symm
  | 13 => exact (cup_n (fun z => absurd z.1 (by decide))).trans (ctE_13 (fun h9 => sI_fn (ne_c9 h9))).symm
  | 14 => exact (cup_n (fun z => absurd z.1 (by decide))).trans ctE_14
  | 15 => exact (cup_n (fun z => absurd z.1 (by decide))).trans (ctE_15 (sI_fn (by exact ne_a (by decide)))).symm
  | 16 => exact (cup_n (fun z => absurd z.1 (by decide))).trans ctE_16
  | 17 => exact (cup_n (fun z => absurd z.1 (by decide))).trans ctE_17
  | 18 => exact (cup_n (fun z => absurd z.1 (by decide))).trans ctE_18
  | k9 + 19 => exact (cup_n (fun z => by have := z.1; omega)).trans ctE_19
theorem cs_mclr (i : Nat) (v : Int32) (h : i < S.2 0 1) : cup (cto G S T o ad) 7 i (.inl (G.2.2.1, 12, .inl (fun q => if q < 12 then v else S.1 (100 + i) q))) = cto G (sR S (100 + i) 0 12 v) T o ad := by
  funext k i9
  match k with
  | 0 => exact (cup_n (fun z => absurd z.1 (by decide))).trans (ctE_0 (sR_fn (by exact ne_a (by decide)))).symm
  | 1 => exact (cup_n (fun z => absurd z.1 (by decide))).trans (ctE_1 (sR_fn (by exact ne_a (by decide))) sR_2g sR_2g).symm
  | 2 => exact (cup_n (fun z => absurd z.1 (by decide))).trans (ctE_2 sR_2g sR_2g).symm
  | 3 => exact (cup_n (fun z => absurd z.1 (by decide))).trans (ctE_3 (sR_fn (by exact ne_a (by decide))) (sR_fn (by exact ne_a (by decide)))).symm
  | 4 => exact (cup_n (fun z => absurd z.1 (by decide))).trans (ctE_4 (sR_fn (by exact ne_a (by decide))) (sR_fn (by exact ne_a (by decide))) sR_2g).symm
  | 5 => exact (cup_n (fun z => absurd z.1 (by decide))).trans (ctE_5 (sR_fn (by exact ne_a (by decide))) (sR_fn (by exact ne_a (by decide))) (sR_fn (by exact ne_a (by decide))) (sR_fn (by exact ne_a (by decide))) sR_2g sR_2g sR_2g).symm
  | 6 => exact (cup_n (fun z => absurd z.1 (by decide))).trans (ctE_6 sR_2g).symm
  | 7 =>
    by_cases h9 : i9 = i
    · subst h9; rw [cup_s]; simp only [cto]; rw [if_pos (show i9 < (sR S (100 + i9) 0 12 v).2 0 1 from h), sR_fx]
    · rw [cup_n (fun z => h9 z.2)]; exact (ctE_7 (sR_fn (ne_f h9)) sR_2g).symm
  | 8 => exact (cup_n (fun z => absurd z.1 (by decide))).trans (ctE_8 (sR_fn (by exact ne_a (by decide))) (sR_fn (by exact ne_a (by decide))) (sR_fn (by exact ne_a (by decide))) sR_2g sR_2g).symm
  | 9 => exact (cup_n (fun z => absurd z.1 (by decide))).trans (ctE_9 (sR_fn (by exact ne_a (by decide))) (sR_fn (by exact ne_a (by decide))) sR_2g sR_2g sR_2g).symm
  | 10 => exact (cup_n (fun z => absurd z.1 (by decide))).trans (ctE_10 sR_2g).symm
  | 11 => exact (cup_n (fun z => absurd z.1 (by decide))).trans (ctE_11 (sR_fn (by exact ne_a (by decide))) (sR_fn (by exact ne_a (by decide))) sR_2g sR_2g sR_2g).symm
  | 12 => exact (cup_n (fun z => absurd z.1 (by decide))).trans (ctE_12 sR_2g).symm
  | 13 => exact (cup_n (fun z => absurd z.1 (by decide))).trans (ctE_13 (fun h9 => sR_fn (ne_c9 h9))).symm
  | 14 => exact (cup_n (fun z => absurd z.1 (by decide))).trans ctE_14
  | 15 => exact (cup_n (fun z => absurd z.1 (by decide))).trans (ctE_15 (sR_fn (by exact ne_a (by decide)))).symm
  | 16 => exact (cup_n (fun z => absurd z.1 (by decide))).trans ctE_16
  | 17 => exact (cup_n (fun z => absurd z.1 (by decide))).trans ctE_17
  | 18 => exact (cup_n (fun z => absurd z.1 (by decide))).trans ctE_18
  | k9 + 19 => exact (cup_n (fun z => by have := z.1; omega)).trans ctE_19
theorem cs_aput (u : Nat) (v : Int32) : cup (cto G S T o ad) 15 0 (.inl (G.2.2.1, 12, .inl (upd (S.1 18) u v))) = cto G (sI S 18 u v) T o ad := by
  funext k i9
  match k with
  | 0 => exact (cup_n (fun z => absurd z.1 (by decide))).trans (ctE_0 (sI_fn (by decide))).symm
  | 1 => exact (cup_n (fun z => absurd z.1 (by decide))).trans (ctE_1 (sI_fn (by decide)) sI_2g sI_2g).symm
  | 2 => exact (cup_n (fun z => absurd z.1 (by decide))).trans (ctE_2 sI_2g sI_2g).symm
  | 3 => exact (cup_n (fun z => absurd z.1 (by decide))).trans (ctE_3 (sI_fn (by decide)) (sI_fn (by decide))).symm
  | 4 => exact (cup_n (fun z => absurd z.1 (by decide))).trans (ctE_4 (sI_fn (by decide)) (sI_fn (by decide)) sI_2g).symm
  | 5 => exact (cup_n (fun z => absurd z.1 (by decide))).trans (ctE_5 (sI_fn (by decide)) (sI_fn (by decide)) (sI_fn (by decide)) (sI_fn (by decide)) sI_2g sI_2g sI_2g).symm
  | 6 => exact (cup_n (fun z => absurd z.1 (by decide))).trans (ctE_6 sI_2g).symm
  | 7 => exact (cup_n (fun z => absurd z.1 (by decide))).trans (ctE_7 (sI_fn (ne_b (by decide))) sI_2g).symm
  | 8 => exact (cup_n (fun z => absurd z.1 (by decide))).trans (ctE_8 (sI_fn (by decide)) (sI_fn (by decide)) (sI_fn (by decide)) sI_2g sI_2g).symm
  | 9 => exact (cup_n (fun z => absurd z.1 (by decide))).trans (ctE_9 (sI_fn (by decide)) (sI_fn (by decide)) sI_2g sI_2g sI_2g).symm
  | 10 => exact (cup_n (fun z => absurd z.1 (by decide))).trans (ctE_10 sI_2g).symm
  | 11 => exact (cup_n (fun z => absurd z.1 (by decide))).trans (ctE_11 (sI_fn (by decide)) (sI_fn (by decide)) sI_2g sI_2g sI_2g).symm
  | 12 => exact (cup_n (fun z => absurd z.1 (by decide))).trans (ctE_12 sI_2g).symm
  | 13 => exact (cup_n (fun z => absurd z.1 (by decide))).trans (ctE_13 (fun h9 => sI_fn (ne_d h9 (by decide)))).symm
  | 14 => exact (cup_n (fun z => absurd z.1 (by decide))).trans ctE_14
  | 15 =>
    by_cases h9 : i9 = 0
    · subst h9; rw [cup_s]; rw [upd_sI]; rfl
    · rw [cup_n (fun z => h9 z.2)]; simp [cto, h9]
  | 16 => exact (cup_n (fun z => absurd z.1 (by decide))).trans ctE_16
  | 17 => exact (cup_n (fun z => absurd z.1 (by decide))).trans ctE_17
  | 18 => exact (cup_n (fun z => absurd z.1 (by decide))).trans ctE_18
  | k9 + 19 => exact (cup_n (fun z => by have := z.1; omega)).trans ctE_19
theorem cs_aclr (v : Int32) : cup (cto G S T o ad) 15 0 (.inl (G.2.2.1, 12, .inl (fun q => if q < 12 then v else S.1 18 q))) = cto G (sR S 18 0 12 v) T o ad := by
  funext k i9
  match k with
  | 0 => exact (cup_n (fun z => absurd z.1 (by decide))).trans (ctE_0 (sR_fn (by decide))).symm
  | 1 => exact (cup_n (fun z => absurd z.1 (by decide))).trans (ctE_1 (sR_fn (by decide)) sR_2g sR_2g).symm
  | 2 => exact (cup_n (fun z => absurd z.1 (by decide))).trans (ctE_2 sR_2g sR_2g).symm
  | 3 => exact (cup_n (fun z => absurd z.1 (by decide))).trans (ctE_3 (sR_fn (by decide)) (sR_fn (by decide))).symm
  | 4 => exact (cup_n (fun z => absurd z.1 (by decide))).trans (ctE_4 (sR_fn (by decide)) (sR_fn (by decide)) sR_2g).symm
  | 5 => exact (cup_n (fun z => absurd z.1 (by decide))).trans (ctE_5 (sR_fn (by decide)) (sR_fn (by decide)) (sR_fn (by decide)) (sR_fn (by decide)) sR_2g sR_2g sR_2g).symm
  | 6 => exact (cup_n (fun z => absurd z.1 (by decide))).trans (ctE_6 sR_2g).symm
  | 7 => exact (cup_n (fun z => absurd z.1 (by decide))).trans (ctE_7 (sR_fn (ne_b (by decide))) sR_2g).symm
  | 8 => exact (cup_n (fun z => absurd z.1 (by decide))).trans (ctE_8 (sR_fn (by decide)) (sR_fn (by decide)) (sR_fn (by decide)) sR_2g sR_2g).symm
  | 9 => exact (cup_n (fun z => absurd z.1 (by decide))).trans (ctE_9 (sR_fn (by decide)) (sR_fn (by decide)) sR_2g sR_2g sR_2g).symm
  | 10 => exact (cup_n (fun z => absurd z.1 (by decide))).trans (ctE_10 sR_2g).symm
  | 11 => exact (cup_n (fun z => absurd z.1 (by decide))).trans (ctE_11 (sR_fn (by decide)) (sR_fn (by decide)) sR_2g sR_2g sR_2g).symm
  | 12 => exact (cup_n (fun z => absurd z.1 (by decide))).trans (ctE_12 sR_2g).symm
  | 13 => exact (cup_n (fun z => absurd z.1 (by decide))).trans (ctE_13 (fun h9 => sR_fn (ne_d h9 (by decide)))).symm
  | 14 => exact (cup_n (fun z => absurd z.1 (by decide))).trans ctE_14
  | 15 =>
    by_cases h9 : i9 = 0
    · subst h9; rw [cup_s]; rw [sR_fx]; rfl
    · rw [cup_n (fun z => h9 z.2)]; simp [cto, h9]
  | 16 => exact (cup_n (fun z => absurd z.1 (by decide))).trans ctE_16
  | 17 => exact (cup_n (fun z => absurd z.1 (by decide))).trans ctE_17
  | 18 => exact (cup_n (fun z => absurd z.1 (by decide))).trans ctE_18
  | k9 + 19 => exact (cup_n (fun z => by have := z.1; omega)).trans ctE_19
theorem cs_log (i j : Nat) (v : Int32) (h : i < 3) : cup (cto G S T o ad) 13 i (.inl (G.2.2.1, 512, .inl (upd (S.1 (15 + i)) j v))) = cto G (sI S (15 + i) j v) T o ad := by
  funext k i9
  match k with
  | 0 => exact (cup_n (fun z => absurd z.1 (by decide))).trans (ctE_0 (sI_fn (by exact ne_e (by decide) h))).symm
  | 1 => exact (cup_n (fun z => absurd z.1 (by decide))).trans (ctE_1 (sI_fn (by exact ne_e (by decide) h)) sI_2g sI_2g).symm
  | 2 => exact (cup_n (fun z => absurd z.1 (by decide))).trans (ctE_2 sI_2g sI_2g).symm
  | 3 => exact (cup_n (fun z => absurd z.1 (by decide))).trans (ctE_3 (sI_fn (by exact ne_e (by decide) h)) (sI_fn (by exact ne_e (by decide) h))).symm
  | 4 => exact (cup_n (fun z => absurd z.1 (by decide))).trans (ctE_4 (sI_fn (by exact ne_e (by decide) h)) (sI_fn (by exact ne_e (by decide) h)) sI_2g).symm
  | 5 => exact (cup_n (fun z => absurd z.1 (by decide))).trans (ctE_5 (sI_fn (by exact ne_e (by decide) h)) (sI_fn (by exact ne_e (by decide) h)) (sI_fn (by exact ne_e (by decide) h)) (sI_fn (by exact ne_e (by decide) h)) sI_2g sI_2g sI_2g).symm
  | 6 => exact (cup_n (fun z => absurd z.1 (by decide))).trans (ctE_6 sI_2g).symm
  | 7 => exact (cup_n (fun z => absurd z.1 (by decide))).trans (ctE_7 (sI_fn (ne_c h)) sI_2g).symm
  | 8 => exact (cup_n (fun z => absurd z.1 (by decide))).trans (ctE_8 (sI_fn (by exact ne_e (by decide) h)) (sI_fn (by exact ne_e (by decide) h)) (sI_fn (by exact ne_e (by decide) h)) sI_2g sI_2g).symm
  | 9 => exact (cup_n (fun z => absurd z.1 (by decide))).trans (ctE_9 (sI_fn (by exact ne_e (by decide) h)) (sI_fn (by exact ne_e (by decide) h)) sI_2g sI_2g sI_2g).symm
  | 10 => exact (cup_n (fun z => absurd z.1 (by decide))).trans (ctE_10 sI_2g).symm
  | 11 => exact (cup_n (fun z => absurd z.1 (by decide))).trans (ctE_11 (sI_fn (by exact ne_e (by decide) h)) (sI_fn (by exact ne_e (by decide) h)) sI_2g sI_2g sI_2g).symm
  | 12 => exact (cup_n (fun z => absurd z.1 (by decide))).trans (ctE_12 sI_2g).symm
  | 13 =>
    by_cases h9 : i9 = i
    · subst h9; rw [cup_s]; simp only [cto]; rw [if_pos h, upd_sI]
    · rw [cup_n (fun z => h9 z.2)]; exact (ctE_13 (fun _ => sI_fn (ne_g h9))).symm
  | 14 => exact (cup_n (fun z => absurd z.1 (by decide))).trans ctE_14
  | 15 => exact (cup_n (fun z => absurd z.1 (by decide))).trans (ctE_15 (sI_fn (by exact ne_e (by decide) h))).symm
  | 16 => exact (cup_n (fun z => absurd z.1 (by decide))).trans ctE_16
  | 17 => exact (cup_n (fun z => absurd z.1 (by decide))).trans ctE_17
  | 18 => exact (cup_n (fun z => absurd z.1 (by decide))).trans ctE_18
  | k9 + 19 => exact (cup_n (fun z => by have := z.1; omega)).trans ctE_19
end CST
theorem cs_size {G : kG} {S T : kSt} {o : Int64} {ad : kAd} (v : Nat) : cup (cto G S T o ad) 12 0 (.inr (4, [.ref (ad 13 0), .ref (ad 13 1), .ref (ad 13 2), .int (nI v)])) = cto G (sN S 0 4 v) T o ad := by
  funext k i9
  match k with
  | 12 => by_cases h : i9 = 0 <;> simp [cup, cto, sN, h]
  | 1 => exact (cup_n (fun z => absurd z.1 (by decide))).trans (by simp only [cto]; rw [show lcnt (sN S 0 4 v) = lcnt S from by funext l; unfold lcnt; simp [sN], show (sN S 0 4 v).2 6 = S.2 6 from sN_fn (by decide)]; rfl)
  | 2 => exact (cup_n (fun z => absurd z.1 (by decide))).trans (by simp only [cto]; rw [show lcnt (sN S 0 4 v) = lcnt S from by funext l; unfold lcnt; simp [sN], show (sN S 0 4 v).2 6 = S.2 6 from sN_fn (by decide)])
  | 0 => simp [cup, cto, sN]
  | 3 => simp [cup, cto, sN]
  | 4 => simp [cup, cto, sN]
  | 5 => simp [cup, cto, sN]
  | 6 => simp [cup, cto, sN]
  | 7 => simp [cup, cto, sN]
  | 8 => simp [cup, cto, sN]
  | 9 => simp [cup, cto, sN]
  | 10 => simp [cup, cto, sN]
  | 11 => simp [cup, cto, sN, lab]
  | 13 => simp [cup, cto, sN]
  | 14 => simp [cup, cto, sN]
  | 15 => simp [cup, cto, sN]
  | 16 => simp [cup, cto, sN]
  | 17 => simp [cup, cto, sN]
  | 18 => simp [cup, cto, sN]
  | _ + 19 => simp [cup, cto]
theorem kdS_sI {S : kSt} {f i : Nat} {v : Int32} (h : f < 100) : kdS (sI S f i v) = kdS S := by
  funext a u
  simp only [kdS]
  rw [sI_fn (by omega)]
theorem kdS_sN {S : kSt} {f i v : Nat} : kdS (sN S f i v) = kdS S := rfl
