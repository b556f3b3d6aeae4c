/-! THE STATE: registers (Int32 by name and index; numbers by name and index), one of the class, one of the reference; what each tag holds of them -/
abbrev kI : Type := Nat → Nat → Int32
abbrev kN : Type := Nat → Nat → Nat
abbrev kSt : Type := kI × kN
def sI (S : kSt) (f i : Nat) (v : Int32) : kSt := (fun g j => if g = f ∧ j = i then v else S.1 g j, S.2)
def sN (S : kSt) (f i v : Nat) : kSt := (S.1, fun g j => if g = f ∧ j = i then v else S.2 g j)
theorem sI_s {S : kSt} {f i : Nat} {v : Int32} : (sI S f i v).1 f i = v := by simp [sI]
theorem sI_f {S : kSt} {f i g j : Nat} {v : Int32} (h : g ≠ f) : (sI S f i v).1 g j = S.1 g j := by simp [sI, h]
theorem sI_n {S : kSt} {f i j : Nat} {v : Int32} (h : j ≠ i) : (sI S f i v).1 f j = S.1 f j := by simp [sI, h]
theorem sI_2 {S : kSt} {f i : Nat} {v : Int32} : (sI S f i v).2 = S.2 := rfl
theorem sN_1 {S : kSt} {f i v : Nat} : (sN S f i v).1 = S.1 := rfl
theorem sN_s {S : kSt} {f i v : Nat} : (sN S f i v).2 f i = v := by simp [sN]
theorem sN_f {S : kSt} {f i g j v : Nat} (h : g ≠ f) : (sN S f i v).2 g j = S.2 g j := by simp [sN, h]
theorem sN_n {S : kSt} {f i j v : Nat} (h : j ≠ i) : (sN S f i v).2 f j = S.2 f j := by simp [sN, h]
/-- how many things a list of the class holds, of which kind they are -/
def lcnt (S : kSt) (l : Nat) : Nat := match l with
  | 0 => 6
  | 1 => S.2 0 0
  | 2 => S.2 0 1
  | 3 => S.2 0 2
  | _ => S.2 0 3
def lknd (l : Nat) : Nat := match l with
  | 0 => 3
  | 1 => 4
  | 2 => 5
  | 3 => 8
  | _ => 9
/-- a number's decimal digits, as signs -/
def dgs : Nat → Nat → List Nat
  | 0, _ => []
  | f + 1, n => if n < 10 then [48 + n] else dgs f (n / 10) ++ [48 + n % 10]
def lab (S : kSt) (t : Nat) : List Nat := dgs 20 (S.2 4 t) ++ 46 :: (dgs 20 (S.1 20 t).toNatClampNeg ++ 62 :: (dgs 20 (S.2 5 t) ++ 64 :: dgs 20 (S.1 13 t).toNatClampNeg))
/-- the arrays of the law: u m v h k b s a t w g, registers 1 to 11 -/
def marr (G : kG) (T : kSt) (i : Nat) : Option va_E := match i with
  | 0 => some (.inl (G.2.2.1, 16, .inl (T.1 1)))
  | 1 => some (.inl (G.2.2.1, 30, .inl (T.1 2)))
  | 2 => some (.inl (G.2.2.1, 30, .inl (T.1 3)))
  | 3 => some (.inl (G.2.2.1, 30, .inl (T.1 4)))
  | 4 => some (.inl (G.2.2.1, 30, .inl (T.1 5)))
  | 5 => some (.inl (G.2.2.1, 16, .inl (T.1 6)))
  | 6 => some (.inl (G.2.2.1, 30, .inl (T.1 7)))
  | 7 => some (.inl (G.2.2.1, 30, .inl (T.1 8)))
  | 8 => some (.inl (G.2.2.1, 31, .inl (T.1 9)))
  | 9 => some (.inl (G.2.2.1, 30, .inl (T.1 10)))
  | 10 => some (.inl (G.2.2.1, 6, .inl (T.1 11)))
  | _ => none
/-- what each tag holds -/
def cto (G : kG) (S T : kSt) (o : Int64) (ad : kAd) : kCt := fun k i => match k with
  | 0 => if i = 0 then some (.inr (10, [.ref (ad 1 0), .ref (ad 1 1), .ref (ad 1 2), .ref (ad 1 3), .ref (ad 1 4), .ref (ad 12 0), .ref (ad 14 0), .int (S.1 0 0)])) else none
  | 1 => if i < 5 then some (.inr (2, [.int (S.1 19 i), .ref (if S.2 6 i = 0 then G.2.2.2.2.2.2 else ad 2 i), .int (nI (lcnt S i))])) else none
  | 2 => if i < 5 ∧ S.2 6 i ≠ 0 then some (.inl (G.2.2.2.2.1, S.2 6 i, .inr (.inr (.inr (.inr (fun j => if j < lcnt S i then some (ad (lknd i) j) else none)))))) else none
  | 3 => if i < 6 then some (.inr (3, [.int (nI i), .int (S.1 3 i), .int (S.1 4 i)])) else none
  | 4 => if i < S.2 0 0 then some (.inr (9, [.int (nI i), .int (S.1 1 i), .int (S.1 2 i)])) else none
  | 5 => if i < S.2 0 1 then some (.inr (6, [.int (nI i), .ref (ad 4 (S.2 1 i)), .ref (ad 3 (S.2 2 i)), .int (S.1 5 i), .int (S.1 6 i), .ref (ad 6 i), .int (S.1 7 i), .int (S.1 8 i)])) else none
  | 6 => if i < S.2 0 1 then some (.inr (5, [.ref (ad 7 i)])) else none
  | 7 => if i < S.2 0 1 then some (.inl (G.2.2.1, 12, .inl (S.1 (100 + i)))) else none
  | 8 => if i < S.2 0 2 then some (.inr (7, [.int (nI i), .ref (ad 5 (S.2 3 i)), .int (S.1 10 i), .int (S.1 11 i), .int (S.1 12 i)])) else none
  | 9 => if i < S.2 0 3 then some (.inr (8, [.int (nI i), .int (nI (S.2 4 i)), .ref (ad 4 (S.2 5 i)), .int (S.1 13 i), .ref (ad 10 i), .int (S.1 14 i)])) else none
  | 10 => if i < S.2 0 3 then some (.inr (0, [.ref (ad 11 i), .int 0, .int 0, .int 0])) else none
  | 11 => if i < S.2 0 3 then some (.inl (G.2.1, (lab S i).length, .inl (fun j => nI ((lab S i).getD j 0)))) else none
  | 12 => if i = 0 then some (.inr (4, [.ref (ad 13 0), .ref (ad 13 1), .ref (ad 13 2), .int (nI (S.2 0 4))])) else none
  | 13 => if i < 3 then some (.inl (G.2.2.1, 512, .inl (S.1 (15 + i)))) else none
  | 14 => if i = 0 then some (.inr (5, [.ref (ad 15 0)])) else none
  | 15 => if i = 0 then some (.inl (G.2.2.1, 12, .inl (S.1 18))) else none
  | 16 => none
  | 17 => marr G T i
  | 18 => none
  | _ => none
section CTO
variable {G : kG} {S T : kSt} {o : Int64} {ad : kAd} {i : Nat}
theorem ct_0 : cto G S T o ad 0 0 = some (.inr (10, [.ref (ad 1 0), .ref (ad 1 1), .ref (ad 1 2), .ref (ad 1 3), .ref (ad 1 4), .ref (ad 12 0), .ref (ad 14 0), .int (S.1 0 0)])) := rfl
theorem ct_1 (h : i < 5) : cto G S T o ad 1 i = some (.inr (2, [.int (S.1 19 i), .ref (if S.2 6 i = 0 then G.2.2.2.2.2.2 else ad 2 i), .int (nI (lcnt S i))])) := if_pos h
theorem ct_2 (h : i < 5) (h2 : S.2 6 i ≠ 0) : cto G S T o ad 2 i = some (.inl (G.2.2.2.2.1, S.2 6 i, .inr (.inr (.inr (.inr (fun j => if j < lcnt S i then some (ad (lknd i) j) else none)))))) := if_pos ⟨h, h2⟩
theorem ct_3 (h : i < 6) : cto G S T o ad 3 i = some (.inr (3, [.int (nI i), .int (S.1 3 i), .int (S.1 4 i)])) := if_pos h
theorem ct_4 (h : i < S.2 0 0) : cto G S T o ad 4 i = some (.inr (9, [.int (nI i), .int (S.1 1 i), .int (S.1 2 i)])) := if_pos h
theorem ct_5 (h : i < S.2 0 1) : cto G S T o ad 5 i = some (.inr (6, [.int (nI i), .ref (ad 4 (S.2 1 i)), .ref (ad 3 (S.2 2 i)), .int (S.1 5 i), .int (S.1 6 i), .ref (ad 6 i), .int (S.1 7 i), .int (S.1 8 i)])) := if_pos h
theorem ct_6 (h : i < S.2 0 1) : cto G S T o ad 6 i = some (.inr (5, [.ref (ad 7 i)])) := if_pos h
theorem ct_7 (h : i < S.2 0 1) : cto G S T o ad 7 i = some (.inl (G.2.2.1, 12, .inl (S.1 (100 + i)))) := if_pos h
theorem ct_8 (h : i < S.2 0 2) : cto G S T o ad 8 i = some (.inr (7, [.int (nI i), .ref (ad 5 (S.2 3 i)), .int (S.1 10 i), .int (S.1 11 i), .int (S.1 12 i)])) := if_pos h
theorem ct_9 (h : i < S.2 0 3) : cto G S T o ad 9 i = some (.inr (8, [.int (nI i), .int (nI (S.2 4 i)), .ref (ad 4 (S.2 5 i)), .int (S.1 13 i), .ref (ad 10 i), .int (S.1 14 i)])) := if_pos h
theorem ct_10 (h : i < S.2 0 3) : cto G S T o ad 10 i = some (.inr (0, [.ref (ad 11 i), .int 0, .int 0, .int 0])) := if_pos h
theorem ct_11 (h : i < S.2 0 3) : cto G S T o ad 11 i = some (.inl (G.2.1, (lab S i).length, .inl (fun j => nI ((lab S i).getD j 0)))) := if_pos h
theorem ct_12 : cto G S T o ad 12 0 = some (.inr (4, [.ref (ad 13 0), .ref (ad 13 1), .ref (ad 13 2), .int (nI (S.2 0 4))])) := rfl
theorem ct_13 (h : i < 3) : cto G S T o ad 13 i = some (.inl (G.2.2.1, 512, .inl (S.1 (15 + i)))) := if_pos h
theorem ct_14 : cto G S T o ad 14 0 = some (.inr (5, [.ref (ad 15 0)])) := rfl
theorem ct_15 : cto G S T o ad 15 0 = some (.inl (G.2.2.1, 12, .inl (S.1 18))) := rfl
theorem ct_17_0 : cto G S T o ad 17 0 = some (.inl (G.2.2.1, 16, .inl (T.1 1))) := rfl
theorem ct_17_1 : cto G S T o ad 17 1 = some (.inl (G.2.2.1, 30, .inl (T.1 2))) := rfl
theorem ct_17_2 : cto G S T o ad 17 2 = some (.inl (G.2.2.1, 30, .inl (T.1 3))) := rfl
theorem ct_17_3 : cto G S T o ad 17 3 = some (.inl (G.2.2.1, 30, .inl (T.1 4))) := rfl
theorem ct_17_4 : cto G S T o ad 17 4 = some (.inl (G.2.2.1, 30, .inl (T.1 5))) := rfl
theorem ct_17_5 : cto G S T o ad 17 5 = some (.inl (G.2.2.1, 16, .inl (T.1 6))) := rfl
theorem ct_17_6 : cto G S T o ad 17 6 = some (.inl (G.2.2.1, 30, .inl (T.1 7))) := rfl
theorem ct_17_7 : cto G S T o ad 17 7 = some (.inl (G.2.2.1, 30, .inl (T.1 8))) := rfl
theorem ct_17_8 : cto G S T o ad 17 8 = some (.inl (G.2.2.1, 31, .inl (T.1 9))) := rfl
theorem ct_17_9 : cto G S T o ad 17 9 = some (.inl (G.2.2.1, 30, .inl (T.1 10))) := rfl
theorem ct_17_10 : cto G S T o ad 17 10 = some (.inl (G.2.2.1, 6, .inl (T.1 11))) := rfl
end CTO
